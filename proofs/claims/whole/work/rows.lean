section
-- ===== PART A: goes FIRST, ahead of the names: the tables' words, and 'selects' of the private methods out of them =====
/-- a private method of a class that the tables say can be made, by its rows of tables_1 -/
def lw_okq (q : MethodName × Nat) : Prop := (q.1.cls ≠ "java/lang/invoke/MethodHandle" ∧ q.1.cls ≠ "java/lang/invoke/VarHandle") ∧ Cond.instantiable q.1.cls q.2 ∈ tables_1 ∧ Cond.privateMethod q.1 ∈ tables_1 ∧ Cond.instanceMethod q.1 ∈ tables_1
theorem lw_p0 : lw_okq (⟨"Pegfield", "stands", "(I)Z"⟩, 6) := ⟨⟨by decide +kernel, by decide +kernel⟩, List.mem_of_getElem? (i := 12) (by decide +kernel), List.mem_of_getElem? (i := 45) (by decide +kernel), List.mem_of_getElem? (i := 46) (by decide +kernel)⟩
theorem lw_p1 : lw_okq (⟨"Pegfield", "pegInRing", "(I)I"⟩, 6) := ⟨⟨by decide +kernel, by decide +kernel⟩, List.mem_of_getElem? (i := 12) (by decide +kernel), List.mem_of_getElem? (i := 60) (by decide +kernel), List.mem_of_getElem? (i := 61) (by decide +kernel)⟩
theorem lw_p2 : lw_okq (⟨"Pegfield", "placeAfter", "(I)I"⟩, 6) := ⟨⟨by decide +kernel, by decide +kernel⟩, List.mem_of_getElem? (i := 12) (by decide +kernel), List.mem_of_getElem? (i := 64) (by decide +kernel), List.mem_of_getElem? (i := 65) (by decide +kernel)⟩
theorem lw_p3 : lw_okq (⟨"Pegfield", "stretchGrains", "(II)I"⟩, 6) := ⟨⟨by decide +kernel, by decide +kernel⟩, List.mem_of_getElem? (i := 12) (by decide +kernel), List.mem_of_getElem? (i := 68) (by decide +kernel), List.mem_of_getElem? (i := 69) (by decide +kernel)⟩
theorem lw_p4 : lw_okq (⟨"Pegfield", "across", "(I)I"⟩, 6) := ⟨⟨by decide +kernel, by decide +kernel⟩, List.mem_of_getElem? (i := 12) (by decide +kernel), List.mem_of_getElem? (i := 72) (by decide +kernel), List.mem_of_getElem? (i := 73) (by decide +kernel)⟩
theorem lw_p5 : lw_okq (⟨"Pegfield", "up", "(I)I"⟩, 6) := ⟨⟨by decide +kernel, by decide +kernel⟩, List.mem_of_getElem? (i := 12) (by decide +kernel), List.mem_of_getElem? (i := 76) (by decide +kernel), List.mem_of_getElem? (i := 77) (by decide +kernel)⟩
theorem lw_p6 : lw_okq (⟨"Pegfield", "nearestOther", "(I)I"⟩, 6) := ⟨⟨by decide +kernel, by decide +kernel⟩, List.mem_of_getElem? (i := 12) (by decide +kernel), List.mem_of_getElem? (i := 99) (by decide +kernel), List.mem_of_getElem? (i := 100) (by decide +kernel)⟩
theorem lw_p7 : lw_okq (⟨"Pegfield", "arePairsSound", "()Z"⟩, 6) := ⟨⟨by decide +kernel, by decide +kernel⟩, List.mem_of_getElem? (i := 12) (by decide +kernel), List.mem_of_getElem? (i := 108) (by decide +kernel), List.mem_of_getElem? (i := 109) (by decide +kernel)⟩
theorem lw_p8 : lw_okq (⟨"Pegfield", "requireTwo", "(II)V"⟩, 6) := ⟨⟨by decide +kernel, by decide +kernel⟩, List.mem_of_getElem? (i := 12) (by decide +kernel), List.mem_of_getElem? (i := 116) (by decide +kernel), List.mem_of_getElem? (i := 117) (by decide +kernel)⟩
theorem lw_p9 : lw_okq (⟨"java/lang/Throwable", "fillInStackTrace", "(I)Ljava/lang/Throwable;"⟩, 6) := ⟨⟨by decide +kernel, by decide +kernel⟩, List.mem_of_getElem? (i := 162) (by decide +kernel), List.mem_of_getElem? (i := 160) (by decide +kernel), List.mem_of_getElem? (i := 161) (by decide +kernel)⟩
theorem lw_p10 : lw_okq (⟨"Pegfield", "requireStanding", "(I)V"⟩, 6) := ⟨⟨by decide +kernel, by decide +kernel⟩, List.mem_of_getElem? (i := 12) (by decide +kernel), List.mem_of_getElem? (i := 192) (by decide +kernel), List.mem_of_getElem? (i := 193) (by decide +kernel)⟩
theorem lw_p11 : lw_okq (⟨"Pegfield", "areThreesSound", "()Z"⟩, 6) := ⟨⟨by decide +kernel, by decide +kernel⟩, List.mem_of_getElem? (i := 12) (by decide +kernel), List.mem_of_getElem? (i := 246) (by decide +kernel), List.mem_of_getElem? (i := 247) (by decide +kernel)⟩
theorem lw_p12 : lw_okq (⟨"Pegfield", "isStraightByAll", "(II)Z"⟩, 6) := ⟨⟨by decide +kernel, by decide +kernel⟩, List.mem_of_getElem? (i := 12) (by decide +kernel), List.mem_of_getElem? (i := 250) (by decide +kernel), List.mem_of_getElem? (i := 251) (by decide +kernel)⟩
theorem lw_p13 : lw_okq (⟨"Pegfield", "isAreaSound", "()Z"⟩, 6) := ⟨⟨by decide +kernel, by decide +kernel⟩, List.mem_of_getElem? (i := 12) (by decide +kernel), List.mem_of_getElem? (i := 258) (by decide +kernel), List.mem_of_getElem? (i := 259) (by decide +kernel)⟩
theorem lw_p14 : lw_okq (⟨"Pegfield", "isRootSound", "(I)Z"⟩, 6) := ⟨⟨by decide +kernel, by decide +kernel⟩, List.mem_of_getElem? (i := 12) (by decide +kernel), List.mem_of_getElem? (i := 269) (by decide +kernel), List.mem_of_getElem? (i := 270) (by decide +kernel)⟩
theorem lw_p15 : lw_okq (⟨"Pegfield", "moveTo", "(III)V"⟩, 6) := ⟨⟨by decide +kernel, by decide +kernel⟩, List.mem_of_getElem? (i := 12) (by decide +kernel), List.mem_of_getElem? (i := 323) (by decide +kernel), List.mem_of_getElem? (i := 324) (by decide +kernel)⟩
def lw_privs_1 : List (MethodName × Nat) := [(⟨"Pegfield", "stands", "(I)Z"⟩, 6), (⟨"Pegfield", "pegInRing", "(I)I"⟩, 6), (⟨"Pegfield", "placeAfter", "(I)I"⟩, 6), (⟨"Pegfield", "stretchGrains", "(II)I"⟩, 6), (⟨"Pegfield", "across", "(I)I"⟩, 6), (⟨"Pegfield", "up", "(I)I"⟩, 6), (⟨"Pegfield", "nearestOther", "(I)I"⟩, 6), (⟨"Pegfield", "arePairsSound", "()Z"⟩, 6), (⟨"Pegfield", "requireTwo", "(II)V"⟩, 6), (⟨"java/lang/Throwable", "fillInStackTrace", "(I)Ljava/lang/Throwable;"⟩, 6), (⟨"Pegfield", "requireStanding", "(I)V"⟩, 6), (⟨"Pegfield", "areThreesSound", "()Z"⟩, 6), (⟨"Pegfield", "isStraightByAll", "(II)Z"⟩, 6), (⟨"Pegfield", "isAreaSound", "()Z"⟩, 6), (⟨"Pegfield", "isRootSound", "(I)Z"⟩, 6), (⟨"Pegfield", "moveTo", "(III)V"⟩, 6)]
theorem lw_r1 : ∀ q ∈ lw_privs_1, lw_okq q := List.forall_mem_cons.mpr ⟨lw_p0, List.forall_mem_cons.mpr ⟨lw_p1, List.forall_mem_cons.mpr ⟨lw_p2, List.forall_mem_cons.mpr ⟨lw_p3, List.forall_mem_cons.mpr ⟨lw_p4, List.forall_mem_cons.mpr ⟨lw_p5, List.forall_mem_cons.mpr ⟨lw_p6, List.forall_mem_cons.mpr ⟨lw_p7, List.forall_mem_cons.mpr ⟨lw_p8, List.forall_mem_cons.mpr ⟨lw_p9, List.forall_mem_cons.mpr ⟨lw_p10, List.forall_mem_cons.mpr ⟨lw_p11, List.forall_mem_cons.mpr ⟨lw_p12, List.forall_mem_cons.mpr ⟨lw_p13, List.forall_mem_cons.mpr ⟨lw_p14, List.forall_mem_cons.mpr ⟨lw_p15, fun _ h => absurd h List.not_mem_nil⟩⟩⟩⟩⟩⟩⟩⟩⟩⟩⟩⟩⟩⟩⟩⟩
theorem lw_p16 : lw_okq (⟨"Pegfield", "isInRing", "(I)Z"⟩, 6) := ⟨⟨by decide +kernel, by decide +kernel⟩, List.mem_of_getElem? (i := 12) (by decide +kernel), List.mem_of_getElem? (i := 336) (by decide +kernel), List.mem_of_getElem? (i := 337) (by decide +kernel)⟩
theorem lw_p17 : lw_okq (⟨"PegfieldModel", "isNoNumber", "(I)Z"⟩, 7) := ⟨⟨by decide +kernel, by decide +kernel⟩, List.mem_of_getElem? (i := 498) (by decide +kernel), List.mem_of_getElem? (i := 534) (by decide +kernel), List.mem_of_getElem? (i := 535) (by decide +kernel)⟩
theorem lw_p18 : lw_okq (⟨"PegfieldModel", "isThrown", "(ZI)Z"⟩, 7) := ⟨⟨by decide +kernel, by decide +kernel⟩, List.mem_of_getElem? (i := 498) (by decide +kernel), List.mem_of_getElem? (i := 541) (by decide +kernel), List.mem_of_getElem? (i := 542) (by decide +kernel)⟩
theorem lw_p19 : lw_okq (⟨"PegfieldModel", "isNoPeg", "(I)Z"⟩, 7) := ⟨⟨by decide +kernel, by decide +kernel⟩, List.mem_of_getElem? (i := 498) (by decide +kernel), List.mem_of_getElem? (i := 549) (by decide +kernel), List.mem_of_getElem? (i := 550) (by decide +kernel)⟩
theorem lw_p20 : lw_okq (⟨"PegfieldModel", "isInRing", "(I)Z"⟩, 7) := ⟨⟨by decide +kernel, by decide +kernel⟩, List.mem_of_getElem? (i := 498) (by decide +kernel), List.mem_of_getElem? (i := 553) (by decide +kernel), List.mem_of_getElem? (i := 554) (by decide +kernel)⟩
theorem lw_p21 : lw_okq (⟨"PegfieldModel", "placed", "(I)I"⟩, 7) := ⟨⟨by decide +kernel, by decide +kernel⟩, List.mem_of_getElem? (i := 498) (by decide +kernel), List.mem_of_getElem? (i := 569) (by decide +kernel), List.mem_of_getElem? (i := 570) (by decide +kernel)⟩
theorem lw_p22 : lw_okq (⟨"PegfieldModel", "isNoPair", "(II)Z"⟩, 7) := ⟨⟨by decide +kernel, by decide +kernel⟩, List.mem_of_getElem? (i := 498) (by decide +kernel), List.mem_of_getElem? (i := 585) (by decide +kernel), List.mem_of_getElem? (i := 586) (by decide +kernel)⟩
theorem lw_p23 : lw_okq (⟨"PegfieldModel", "grainsOf", "(II)I"⟩, 7) := ⟨⟨by decide +kernel, by decide +kernel⟩, List.mem_of_getElem? (i := 498) (by decide +kernel), List.mem_of_getElem? (i := 589) (by decide +kernel), List.mem_of_getElem? (i := 590) (by decide +kernel)⟩
theorem lw_p24 : lw_okq (⟨"PegfieldModel", "isNoLonger", "(III)Z"⟩, 7) := ⟨⟨by decide +kernel, by decide +kernel⟩, List.mem_of_getElem? (i := 498) (by decide +kernel), List.mem_of_getElem? (i := 617) (by decide +kernel), List.mem_of_getElem? (i := 618) (by decide +kernel)⟩
theorem lw_p25 : lw_okq (⟨"PegfieldModel", "nearestTo", "(I)I"⟩, 7) := ⟨⟨by decide +kernel, by decide +kernel⟩, List.mem_of_getElem? (i := 498) (by decide +kernel), List.mem_of_getElem? (i := 626) (by decide +kernel), List.mem_of_getElem? (i := 627) (by decide +kernel)⟩
theorem lw_p26 : lw_okq (⟨"PegfieldModel", "isNoAsked", "(II)Z"⟩, 7) := ⟨⟨by decide +kernel, by decide +kernel⟩, List.mem_of_getElem? (i := 498) (by decide +kernel), List.mem_of_getElem? (i := 638) (by decide +kernel), List.mem_of_getElem? (i := 639) (by decide +kernel)⟩
theorem lw_p27 : lw_okq (⟨"PegfieldModel", "behind", "(I)I"⟩, 7) := ⟨⟨by decide +kernel, by decide +kernel⟩, List.mem_of_getElem? (i := 498) (by decide +kernel), List.mem_of_getElem? (i := 702) (by decide +kernel), List.mem_of_getElem? (i := 703) (by decide +kernel)⟩
def lw_privs_2 : List (MethodName × Nat) := [(⟨"Pegfield", "isInRing", "(I)Z"⟩, 6), (⟨"PegfieldModel", "isNoNumber", "(I)Z"⟩, 7), (⟨"PegfieldModel", "isThrown", "(ZI)Z"⟩, 7), (⟨"PegfieldModel", "isNoPeg", "(I)Z"⟩, 7), (⟨"PegfieldModel", "isInRing", "(I)Z"⟩, 7), (⟨"PegfieldModel", "placed", "(I)I"⟩, 7), (⟨"PegfieldModel", "isNoPair", "(II)Z"⟩, 7), (⟨"PegfieldModel", "grainsOf", "(II)I"⟩, 7), (⟨"PegfieldModel", "isNoLonger", "(III)Z"⟩, 7), (⟨"PegfieldModel", "nearestTo", "(I)I"⟩, 7), (⟨"PegfieldModel", "isNoAsked", "(II)Z"⟩, 7), (⟨"PegfieldModel", "behind", "(I)I"⟩, 7)]
theorem lw_r2 : ∀ q ∈ lw_privs_2, lw_okq q := List.forall_mem_cons.mpr ⟨lw_p16, List.forall_mem_cons.mpr ⟨lw_p17, List.forall_mem_cons.mpr ⟨lw_p18, List.forall_mem_cons.mpr ⟨lw_p19, List.forall_mem_cons.mpr ⟨lw_p20, List.forall_mem_cons.mpr ⟨lw_p21, List.forall_mem_cons.mpr ⟨lw_p22, List.forall_mem_cons.mpr ⟨lw_p23, List.forall_mem_cons.mpr ⟨lw_p24, List.forall_mem_cons.mpr ⟨lw_p25, List.forall_mem_cons.mpr ⟨lw_p26, List.forall_mem_cons.mpr ⟨lw_p27, fun _ h => absurd h List.not_mem_nil⟩⟩⟩⟩⟩⟩⟩⟩⟩⟩⟩⟩
def lw_privs : List (MethodName × Nat) := lw_privs_1 ++ (lw_privs_2)
def lw_tbl : List Cond := k2_sels lw_privs ++ tables_1
theorem lw_privs_ok : ∀ q ∈ lw_privs, lw_okq q := by
  show ∀ q ∈ lw_privs_1 ++ (lw_privs_2), lw_okq q
  exact List.forall_mem_append.mpr ⟨lw_r1, lw_r2⟩
/-- the streams that the claim lets the run draw from -/
abbrev lw_cs : List Choice := [Jvm.Choice.named "NaN.bits"]
theorem lw_bits : nanBits ∈ lw_cs := by first | decide | exact List.mem_cons_self | simp [lw_cs, nanBits]
end
section
/-! ===== BEGIN words of one list among another's, by their places ===== -/
theorem goodIn_r {big : List Cond} (ws : List Cond) (ps : List Nat) (hp : ws = ps.filterMap (fun i => big[i]?)) (h : ws.all goodWord = true) : GoodIn big ws := by
  intro w hw
  have h1 := List.all_eq_true.mp h w hw
  rw [hp] at hw
  obtain ⟨i, -, hi⟩ := List.mem_filterMap.mp hw
  have hm : w ∈ big := by first | exact List.mem_of_getElem? hi | exact List.getElem?_mem hi
  exact ⟨hm, good_of_word h1⟩
theorem goodIn_app {big a b : List Cond} (ha : GoodIn big a) (hb : GoodIn big b) : GoodIn big (a ++ b) := fun w h => (List.mem_append.mp h).elim (ha w) (hb w)
theorem goodIn_ca {big a b : List Cond} {c : Cond} (ha : GoodIn big (c :: a)) (hb : GoodIn big b) : GoodIn big (c :: (a ++ b)) := fun w h => (List.mem_cons.mp h).elim (fun e => ha w (List.mem_cons.mpr (Or.inl e))) (fun h => (List.mem_append.mp h).elim (fun h => ha w (List.mem_cons.mpr (Or.inr h))) (hb w))
theorem goodIn_sub {big ws : List Cond} (hm : ∀ w ∈ ws, w ∈ big) (h : ws.all goodWord = true) : GoodIn big ws := fun w hw => ⟨hm w hw, good_of_word (List.all_eq_true.mp h w hw)⟩
/-! ===== END ===== -/

/-! ===== BEGIN exceptions that leave a method, and their catching by the caller (launches without stack traces) ===== -/
section VXA
/-! The laws vx_back, vx_callV, vx_callS, vx_callSW, vx_throw0, vx_throwS follow proofs of the library, with one case more: JvmDerived/Free/Laws.lean (Back.of_free), Shelf42/LK1.lean (callV, callS), Shelf/KitTraced.lean (throwNew0V, throwNewS). -/
/-- where a method has thrown q: the class by its name, the cell, what was written, the world -/
def vx_T (XC : String → State → State → Prop) (st : State) (q : Addr) (t : State) (mc ms : Nat) (free : Addr → Prop) : Prop :=
  ∃ (E : String) (ce : Cell) (L : List Loc), XC E st t ∧ t.heap[q]? = some ce ∧ ce.vm = .none ∧ st.vm.findClass E = some ce.cls ∧ st.WarmedH t.vm ∧ st.sameButNew ({ t with vm := st.vm } : State) L mc ms ∧ ∀ z ∈ L, free z.base
def vx_Q (Qc : Array Value → State → Outcome → State → Prop) (XC : String → State → State → Prop) (mc ms : Nat) (free : Addr → Prop) : Array Value → State → Outcome → State → Prop := fun a st o t =>
  (Qc a st o t ∧ ∃ L, FrameEnd st o t L mc ms ∧ ∀ q ∈ L, free q.base) ∨ ∃ q, o = .threw q ∧ vx_T XC st q t mc ms free
/-- a callee that returns or throws -/
def vx_Met (l : Launch) (y : MethodName) (ws : List Cond) (rm : Room) (Pc : Array Value → State → Prop) (Qc : Array Value → State → Outcome → State → Prop) (XC : String → State → State → Prop) (mc ms : Nat) (free : Addr → Prop) : Prop :=
  MetFree l y (headSpec ws rm) Pc (fun _ _ _ _ _ => True) (vx_Q Qc XC mc ms free)
def vx_Post (XC : String → State → State → Prop) (mc ms : Nat) (free : Addr → Prop) : Pt → Array Value → Addr → Pt → Prop := fun A a q B =>
  ∃ (g : JFrame) (mk : MethodId) (t : State) (L : List Loc) (E : String) (ce : Cell), B.U.heap = t.heap ∧ B.U.vm = t.vm ∧ XC E (A.U.calling g mk a) t ∧ t.heap[q]? = some ce ∧ ce.vm = .none ∧ A.U.vm.findClass E = some ce.cls ∧ B.locs = A.locs ++ L ∧ (∀ z ∈ L, free z.base) ∧ B.cells = A.cells + mc ∧ B.slots = A.slots + ms
def vx_Back (l : Launch) (R : Room) (p : Program) (e : Env) (below : List Frame) (s : State) (sargs : Array Value) (y : MethodName) (len W9 : Nat)
    (Pre : Pt → Array Value → Prop) (Post : Pt → Array Value → Option Value → Pt → Prop) (PostX : Pt → Array Value → Addr → Pt → Prop) : Prop :=
  ∀ (m : MethodId) (meth : Method) (c : Code) (A : Pt) (g : JFrame) (ig : Instr) (mk : MethodId) (a : Array Value),
    Stand p l e R s m sargs below meth c A.U A.locs A.cells A.slots → g.method = m → g.locals.size = c.maxLocals → decode c.code g.pc = .ok (ig, len) →
    2 * g.monitorRoom + (g.stack.map fun v => v.category).sum ≤ W9 → A.U.methodNamed? y = some mk → Pre A a →
    (∃ (v : Option Value) (B : Pt), Stand p l e R s m sargs below meth c B.U B.locs B.cells B.slots ∧ Post A a v B ∧
      Steps p.tables e below (doInvoke e (A.U.setTop g) [] mk a).1 (B.U.setTop { g with pc := g.pc + len, stack := v.toList ++ g.stack })) ∨
    (∃ (q : Addr) (B : Pt), Stand p l e R s m sargs below meth c B.U B.locs B.cells B.slots ∧ PostX A a q B ∧
      Steps p.tables e below (doInvoke e (A.U.setTop g) [] mk a).1 ((B.U.setTop g).pushFrame (.throwing q)))
section Payer
variable {l : Launch} {R : Room} {p : Program} {e : Env} {below : List Frame} {s : State} {sargs : Array Value} {y : MethodName} {len W9 : Nat}
theorem vx_back {ws : List Cond} {rm : Room} {Pc : Array Value → State → Prop} {Qc : Array Value → State → Outcome → State → Prop} {XC : String → State → State → Prop} {mc ms : Nat} {free : Addr → Prop} {bytes : ByteArray} {maxL : Nat} {ret : Option FieldType}
    (hM : vx_Met l y ws rm Pc Qc XC mc ms free) (hblind : FrameBlind Pc) (hrc : rm.cells = mc) (hrs : rm.slots = ms)
    (hframes : rm.frames + 1 ≤ R.frames) (hlocals : W9 + (maxL + 11) + rm.locals ≤ R.locals)
    (hws : ∀ w ∈ ws, ∀ a' U, s.WarmedH U.vm → w.before a' U = true) (hcode : Cond.code y bytes maxL ret ∈ ws) (hinit : ∀ a' U, s.WarmedH U.vm → (Cond.initialized y.cls).before a' U = true) :
    vx_Back l R p e below s sargs y len W9 (PreOf R mc ms Pc) (PostOf Qc mc ms free) (vx_Post XC mc ms free) := by
  intro m meth c A g ig mk a X hg hsize hdg hW hn hp
  have h1 : (headSpec ws rm).pre.before a A.U = true := atoms_intro fun w hw => hws w hw _ _ X.warmed
  have h2 : (Cond.code y bytes maxL ret).before a A.U = true := hws _ hcode _ _ X.warmed
  have h3 : (Cond.initialized y.cls).before a A.U = true := hinit _ _ X.warmed
  have h4 : A.cells + (headSpec ws rm).room.cells ≤ R.cells := by rw [show (headSpec ws rm).room.cells = mc from hrc]; exact hp.1
  have h5 : A.slots + (headSpec ws rm).room.slots ≤ R.slots := by rw [show (headSpec ws rm).room.slots = ms from hrs]; exact hp.2.1
  have hPc : Pc a (A.U.calling g mk a) := hblind _ _ _ _ hp.2.2
  obtain ⟨U, Ls, c0, s0⟩ := A
  dsimp only [Pt.U, Pt.locs, Pt.cells, Pt.slots] at h1 h2 h3 h4 h5 X hn hPc ⊢
  obtain ⟨methY, cY, hmY, hcY, -, hlY, -, -, -, -⟩ := Cond.code_spec hn h2
  obtain ⟨kY, hkY, -⟩ := className_of_methodNamed hn
  have hinitY : kY.init = .initialized := Cond.initialized_spec (findClass_of_methodNamed hn) hkY h3
  have h : At U g.method c below := by rw [hg]; exact X.here
  have hlocals9 : W9 + (maxL + 11) + (headSpec ws rm).room.locals ≤ R.locals := hlocals
  have happ : (headSpec ws rm).appliesLoose y e.platform (U.calling g mk a) = true :=
    Spec.appliesLoose_calling (g := g) h hdg hn hkY hinitY
      (X.room_calling (g := g) (R' := (headSpec ws rm).room) hsize hmY hcY hframes (by rw [hlY]; omega) h4 h5) h1
  obtain ⟨mid, hmid⟩ := h.above
  have hfr : (U.setTop g).frames = (.java g :: mid) ++ below := by rw [State.frames_setTop' g h.top, hmid]; rfl
  obtain ⟨o, s₂, hsteps, -, hend, hq⟩ := Steps.callFree hM p X.admits X.cas X.clock (acts := []) hfr happ hPc trivial
  have hq' : vx_Q Qc XC mc ms free a (U.calling g mk a) o s₂ := hq
  rw [State.frames_setTop' g h.top] at hend
  obtain ⟨g₀, hg0⟩ := Option.isSome_iff_exists.mp h.top
  obtain ⟨r, hr⟩ := State.topJava?_eq_some.mp hg0
  have hr' : (({ U with heap := s₂.heap, slotsUsed := s₂.slotsUsed } : State).setVm s₂.vm).frames = .java g₀ :: r := hr
  rcases hq' with ⟨hqc, L, hfe, hL⟩ | ⟨q, rfl, E, ce, L, hx, hce, hcv, hcl, hW₂, hsm, hL⟩
  · obtain ⟨⟨v, rfl⟩, hW₂, e2, q2, q3, q4, q5, q6⟩ := id hfe
    have e3 : s₂ = ({ (U.calling g mk a).setFrames s₂.frames with heap := s₂.heap, slotsUsed := s₂.slotsUsed } : State).setVm s₂.vm := by
      have : s₂ = ({ s₂ with vm := (U.calling g mk a).vm } : State).setVm s₂.vm := rfl
      rw [e2] at this
      exact this
    obtain ⟨c₂, i₂, len₂, hc₂, hd₂, hf₂⟩ := hend
    have hW' : U.WarmedH s₂.vm := hW₂
    have hcc : c₂ = c := by
      have h1 : s₂.code? g.method = U.code? g.method := by
        rw [State.code?_eq, State.code?_eq, hW'.alike.method?]
      exact Option.some.inj (hc₂.symm.trans (h1.trans h.code))
    subst hcc
    have hlen : len₂ = len := by rw [hdg] at hd₂; cases hd₂; rfl
    subst hlen
    have hs₂ : s₂ = (({ U with heap := s₂.heap, slotsUsed := s₂.slotsUsed } : State).setVm s₂.vm).setTop { g with pc := g.pc + len₂, stack := v.toList ++ g.stack } := by
      refine e3.trans ?_
      rw [hf₂, State.calling_eq h.top, State.setFrames_setFrames, State.setTop_of_frames _ hr', hr]
      rfl
    have hsame : U.sameButNew ({ U with heap := s₂.heap, slotsUsed := s₂.slotsUsed } : State) L mc ms := by
      refine ⟨?_, q2, q3, q4, q5, q6⟩
      obtain ⟨t, ht, -⟩ := State.frames_cons hr
      show ({ U with heap := s₂.heap, slotsUsed := s₂.slotsUsed } : State) = { U.setFrames U.frames with heap := s₂.heap, slotsUsed := s₂.slotsUsed }
      rw [State.setFrames_self ht]
    subst hg
    refine Or.inl ⟨v, ⟨(({ U with heap := s₂.heap, slotsUsed := s₂.slotsUsed } : State).setVm s₂.vm), Ls ++ L, c0 + mc, s0 + ms⟩,
      ⟨X.admits, X.cas, X.clock, X.frames, X.room, X.hears, X.method, X.code, (X.here.setHeapUsed s₂.heap s₂.slotsUsed).setVm hW'.alike, X.tail, State.WarmedH.trans X.warmed hW', X.limits, X.bytes, X.same.trans (hsame.setVm s.vm)⟩,
      ⟨g, mk, s₂, L, rfl, rfl, hqc, rfl, hL, rfl, rfl⟩, ?_⟩
    show Steps p.tables e below _ ((({ U with heap := s₂.heap, slotsUsed := s₂.slotsUsed } : State).setVm s₂.vm).setTop { g with pc := g.pc + len₂, stack := v.toList ++ g.stack })
    rw [← hs₂]
    exact hsteps
  · obtain ⟨e2, q2, q3, q4, q5, q6⟩ := id hsm
    have e3 : s₂ = ({ (U.calling g mk a).setFrames s₂.frames with heap := s₂.heap, slotsUsed := s₂.slotsUsed } : State).setVm s₂.vm := by
      have : s₂ = ({ s₂ with vm := (U.calling g mk a).vm } : State).setVm s₂.vm := rfl
      rw [e2] at this
      exact this
    have hf₂ : s₂.frames = .throwing q :: .java g :: U.frames.tail := hend
    have hW' : U.WarmedH s₂.vm := hW₂
    have hs₂ : s₂ = ((({ U with heap := s₂.heap, slotsUsed := s₂.slotsUsed } : State).setVm s₂.vm).setTop g).pushFrame (.throwing q) := by
      refine e3.trans ?_
      rw [hf₂, State.calling_eq h.top, State.setFrames_setFrames, State.pushFrame, State.frames_setTop _ hr', State.setTop_of_frames _ hr', State.setFrames_setFrames, hr]
      rfl
    have hsame : U.sameButNew ({ U with heap := s₂.heap, slotsUsed := s₂.slotsUsed } : State) L mc ms := by
      refine ⟨?_, q2, q3, q4, q5, q6⟩
      obtain ⟨t, ht, -⟩ := State.frames_cons hr
      show ({ U with heap := s₂.heap, slotsUsed := s₂.slotsUsed } : State) = { U.setFrames U.frames with heap := s₂.heap, slotsUsed := s₂.slotsUsed }
      rw [State.setFrames_self ht]
    subst hg
    refine Or.inr ⟨q, ⟨(({ U with heap := s₂.heap, slotsUsed := s₂.slotsUsed } : State).setVm s₂.vm), Ls ++ L, c0 + mc, s0 + ms⟩,
      ⟨X.admits, X.cas, X.clock, X.frames, X.room, X.hears, X.method, X.code, (X.here.setHeapUsed s₂.heap s₂.slotsUsed).setVm hW'.alike, X.tail, State.WarmedH.trans X.warmed hW', X.limits, X.bytes, X.same.trans (hsame.setVm s.vm)⟩,
      ⟨g, mk, s₂, L, E, ce, rfl, rfl, hx, hce, hcv, hcl, rfl, hL, rfl, rfl⟩, ?_⟩
    show Steps p.tables e below _ (((({ U with heap := s₂.heap, slotsUsed := s₂.slotsUsed } : State).setVm s₂.vm).setTop g).pushFrame (.throwing q))
    rw [← hs₂]
    exact hsteps
end Payer
section Calls
variable {p : Program} {l : Launch} {e : Env} {R : Room} {s : State} {m : MethodId} {args : Array Value} {below : List Frame} {meth : Method} {c : Code} {T : State} {locs : List Loc} {cells slots : Nat}
theorem vx_callV (X : Stand p l e R s m args below meth c T locs cells slots) (hexec : p.tables.exec = Jvm.exec) {own C : String} {index : Nat} {y : MethodName} {bytes : ByteArray} {maxL : Nat} {ret : Option FieldType}
    (hown : s.vm.findClass own = some m.cls) (hlink : (Cond.methodLink own index y).before args s = true) (hinst : (Cond.instanceMethod y).before args s = true) (hsel : (Cond.selects C y y).before args s = true)
    (hcode : (Cond.code y bytes maxL ret).before args s = true) (hy : y.cls ≠ "java/lang/invoke/MethodHandle" ∧ y.cls ≠ "java/lang/invoke/VarHandle")
    {W9 : Nat} {Pre : Pt → Array Value → Prop} {Post : Pt → Array Value → Option Value → Pt → Prop} {PostX : Pt → Array Value → Addr → Pt → Prop} (hK : vx_Back l R p e below s args y 3 W9 Pre Post PostX)
    {b : Addr} {cellB : Cell} (hcell : T.heap[b]? = some cellB) (hobj : cellB.vm.isStatics = false) (hcls : s.vm.findClass C = some cellB.cls)
    {g : JFrame} (hg : g.method = m) (hsize : g.locals.size = c.maxLocals) {argsL rest : List Value} (hlen : ∀ sig, parseMethodDescriptor y.desc = some sig → argsL.length = sig.parameters.length)
    (hstack : g.stack = argsL.reverse ++ .ref b :: rest) (hW : 2 * g.monitorRoom + (rest.map fun v => v.category).sum ≤ W9) (hdg : decode c.code g.pc = .ok (.invokevirtual index, 3))
    (hpre : ∀ vm₁, s.WarmedH vm₁ → Pre ⟨T.setVm vm₁, locs, cells, slots⟩ (Value.ref b :: argsL).toArray) :
    (∃ (v : Option Value) (vm₁ : Vm) (B : Pt), s.WarmedH vm₁ ∧ Stand p l e R s m args below meth c B.U B.locs B.cells B.slots ∧ Post ⟨T.setVm vm₁, locs, cells, slots⟩ (Value.ref b :: argsL).toArray v B ∧
      ∀ target, Steps p.tables e below (B.U.setTop { g with pc := g.pc + 3, stack := v.toList ++ rest }) target → Steps p.tables e below (T.setTop g) target) ∨
    (∃ (q : Addr) (vm₁ : Vm) (B : Pt), s.WarmedH vm₁ ∧ Stand p l e R s m args below meth c B.U B.locs B.cells B.slots ∧ PostX ⟨T.setVm vm₁, locs, cells, slots⟩ (Value.ref b :: argsL).toArray q B ∧
      Steps p.tables e below (T.setTop g) ((B.U.setTop { g with stack := rest }).pushFrame (.throwing q))) := by
  obtain ⟨mk, methM, hnamed, hmethM, hstM, habM⟩ := Cond.instanceMethod_spec hinst
  obtain ⟨methM', cM, hmethM', -, -, -, -, -, -, hsigM⟩ := Cond.code_spec hnamed hcode
  cases hmethM.symm.trans hmethM'
  obtain ⟨c2, r2, m2, q1, q2, q3, q4, kP, hkP, hkPi⟩ := Cond.selects_spec hsel
  cases hcls.symm.trans q1
  cases (State.methodFound?_of_named hnamed hy).symm.trans q2
  cases hnamed.symm.trans q3
  have hselP : selectMethod e.platform s.vm cellB.cls mk = .method mk := by rw [Launch.admits_selectMethod X.admits]; exact q4
  obtain ⟨vm₁, X₁, hstep₁⟩ := X.invokevirtual hexec hown hlink hnamed hmethM hstM hkP hkPi hy (a := b) (cell := cellB) hcell
    (fun z h => by rw [h] at hobj; cases hobj) hselP hmethM habM hkP hkPi (g := g) hg (argsL := argsL) (rest := rest) (hlen _ hsigM) hstack hdg
  rcases hK m meth c ⟨T.setVm vm₁, locs, cells, slots⟩ { g with stack := rest } (.invokevirtual index) mk (Value.ref b :: argsL).toArray X₁ hg hsize hdg hW (X₁.named hnamed) (hpre vm₁ X₁.warmed) with ⟨v, B, X', hpost, hsteps⟩ | ⟨q, B, X', hpost, hsteps⟩
  · exact Or.inl ⟨v, vm₁, B, X₁.warmed, X', hpost, fun target h => hstep₁ _ fun acts => by rw [doInvoke_state]; exact hsteps.trans h⟩
  · exact Or.inr ⟨q, vm₁, B, X₁.warmed, X', hpost, hstep₁ _ fun acts => by rw [doInvoke_state]; exact hsteps⟩
theorem vx_callS (X : Stand p l e R s m args below meth c T locs cells slots) (hexec : p.tables.exec = Jvm.exec) {own : String} {index : Nat} {y : MethodName} {bytes : ByteArray} {maxL : Nat} {ret : Option FieldType}
    (hown : s.vm.findClass own = some m.cls) (hlink : (Cond.methodLink own index y).before args s = true) (hstat : (Cond.static y).before args s = true) (hinit : (Cond.initialized y.cls).before args s = true)
    (hcode : (Cond.code y bytes maxL ret).before args s = true) (hy : y.cls ≠ "java/lang/invoke/MethodHandle" ∧ y.cls ≠ "java/lang/invoke/VarHandle")
    {W9 : Nat} {Pre : Pt → Array Value → Prop} {Post : Pt → Array Value → Option Value → Pt → Prop} {PostX : Pt → Array Value → Addr → Pt → Prop} (hK : vx_Back l R p e below s args y 3 W9 Pre Post PostX)
    {g : JFrame} (hg : g.method = m) (hsize : g.locals.size = c.maxLocals) {argsL rest : List Value} (hlen : ∀ sig, parseMethodDescriptor y.desc = some sig → argsL.length = sig.parameters.length)
    (hstack : g.stack = argsL.reverse ++ rest) (hW : 2 * g.monitorRoom + (rest.map fun v => v.category).sum ≤ W9) (hdg : decode c.code g.pc = .ok (.invokestatic index, 3))
    (hpre : ∀ vm₁, s.WarmedH vm₁ → Pre ⟨T.setVm vm₁, locs, cells, slots⟩ argsL.toArray) :
    (∃ (v : Option Value) (vm₁ : Vm) (B : Pt), s.WarmedH vm₁ ∧ Stand p l e R s m args below meth c B.U B.locs B.cells B.slots ∧ Post ⟨T.setVm vm₁, locs, cells, slots⟩ argsL.toArray v B ∧
      ∀ target, Steps p.tables e below (B.U.setTop { g with pc := g.pc + 3, stack := v.toList ++ rest }) target → Steps p.tables e below (T.setTop g) target) ∨
    (∃ (q : Addr) (vm₁ : Vm) (B : Pt), s.WarmedH vm₁ ∧ Stand p l e R s m args below meth c B.U B.locs B.cells B.slots ∧ PostX ⟨T.setVm vm₁, locs, cells, slots⟩ argsL.toArray q B ∧
      Steps p.tables e below (T.setTop g) ((B.U.setTop { g with stack := rest }).pushFrame (.throwing q))) := by
  obtain ⟨mk, hnamed⟩ := Cond.code_named hcode
  obtain ⟨methM, cM, hmethM, -, -, -, -, -, -, hsigM⟩ := Cond.code_spec hnamed hcode
  have hstatic : methM.isStatic = true := Cond.static_spec hnamed hmethM hstat
  obtain ⟨kP, hkP, -⟩ := className_of_methodNamed hnamed
  have hinitP : kP.init = .initialized := Cond.initialized_spec (findClass_of_methodNamed hnamed) hkP hinit
  obtain ⟨vm₁, X₁, hstep₁⟩ := X.invokestatic hexec hown hlink hnamed hmethM hstatic hkP hinitP hy (g := g) hg (argsL := argsL) (rest := rest) (hlen _ hsigM) hstack hdg
  rcases hK m meth c ⟨T.setVm vm₁, locs, cells, slots⟩ { g with stack := rest } (.invokestatic index) mk argsL.toArray X₁ hg hsize hdg hW (X₁.named hnamed) (hpre vm₁ X₁.warmed) with ⟨v, B, X', hpost, hsteps⟩ | ⟨q, B, X', hpost, hsteps⟩
  · exact Or.inl ⟨v, vm₁, B, X₁.warmed, X', hpost, fun target h => hstep₁ _ fun acts => by rw [doInvoke_state]; exact hsteps.trans h⟩
  · exact Or.inr ⟨q, vm₁, B, X₁.warmed, X', hpost, hstep₁ _ fun acts => by rw [doInvoke_state]; exact hsteps⟩
end Calls
theorem vx_cls {s : State} {T : State} {vm₁ : Vm} {E : String} {k : ClassId} (hW : s.WarmedH vm₁) (h : (T.setVm vm₁).vm.findClass E = some k) : s.vm.findClass E = some k := by
  have h1 : vm₁.findClass E = some k := h
  rw [hW.alike.findClass] at h1
  exact h1
/-- the method's frame g, with q thrown over it -/
def vx_W (p : Program) (l : Launch) (e : Env) (R : Room) (s : State) (m : MethodId) (args : Array Value) (below : List Frame) (meth : Method) (c : Code) (H : Heap) (locs : List Loc) (cells slots : Nat) (Q : State → Prop) (g : JFrame) (q : Addr) : Prop :=
  ∀ T : State, T.heap = H → Stand p l e R s m args below meth c T locs cells slots → ∃ t, Steps p.tables e below ((T.setTop g).pushFrame (.throwing q)) t ∧ Q t
def vx_Run (p : Program) (l : Launch) (e : Env) (R : Room) (s : State) (m : MethodId) (args : Array Value) (below : List Frame) (meth : Method) (c : Code) (H : Heap) (locs : List Loc) (cells slots mc ms : Nat) (g : JFrame) (rest : List Value) (Qa : State → Outcome → State → Prop) (XC : String → State → State → Prop) (free : Addr → Prop) : Prop :=
  ∀ T : State, T.heap = H → Stand p l e R s m args below meth c T locs cells slots →
    (∃ (v : Option Value) (st₀ t T' : State) (L : List Loc), st₀.heap = H ∧ Stand p l e R s m args below meth c T' (locs ++ L) (cells + mc) (slots + ms) ∧ (∀ q ∈ L, free q.base) ∧ T'.heap = t.heap ∧ T'.vm = t.vm ∧ Qa st₀ (.returned v) t ∧
      Goes p e below T g T' { g with pc := g.pc + 3, stack := v.toList ++ rest }) ∨
    (∃ (q : Addr) (st₀ t T' : State) (L : List Loc) (E : String) (ce : Cell), st₀.heap = H ∧ Stand p l e R s m args below meth c T' (locs ++ L) (cells + mc) (slots + ms) ∧ (∀ z ∈ L, free z.base) ∧ T'.heap = t.heap ∧ T'.vm = t.vm ∧ XC E st₀ t ∧ t.heap[q]? = some ce ∧ ce.vm = .none ∧ s.vm.findClass E = some ce.cls ∧
      Steps p.tables e below (T.setTop g) ((T'.setTop { g with stack := rest }).pushFrame (.throwing q)))
def vx_X {S : Type} (px : S → Prop) (B : String → S → State → Prop) (A : Nat → Prop) : String → State → State → Prop := fun E st t => ∃ u : S, px u ∧ B E u t ∧ va_F A st t
section Runs
variable {p : Program} {l : Launch} {e : Env} {R : Room} {s : State} {m : MethodId} {args : Array Value} {below : List Frame} {meth : Method} {c : Code} {H : Heap} {locs : List Loc} {cells slots : Nat}
variable {y : MethodName} {bytes cc : ByteArray} {maxL nL mc ms n index : Nat} {ret : Option FieldType} {ws : List Cond} {rm : Room} {Pc : Array Value → State → Prop} {Qc : Array Value → State → Outcome → State → Prop} {XC : String → State → State → Prop} {free : Addr → Prop} {Ts : List Cond} {own C : String} {b : Addr} {As rest : List Value} {g : JFrame}
theorem vx_callBack (cb : CallB R s args own index y bytes maxL ret ws rm mc ms n) (hM : vx_Met l y ws rm Pc Qc XC mc ms free) (hbl : FrameBlind Pc) : vx_Back l R p e below s args y 3 8 (PreOf R mc ms Pc) (PostOf Qc mc ms free) (vx_Post XC mc ms free) := by
  obtain ⟨hrc, hrs, hfr, hlo, hws, hcw, -, hini, -⟩ := cb
  exact vx_back (bytes := bytes) (maxL := maxL) (ret := ret) hM hbl hrc hrs hfr hlo hws hcw (fun a' U hW => word_at hW (Or.inl (by first | rfl | simp [Cond.onTables, Cond.keeps, Cond.steady])) hini)
theorem vx_runV (S : CallFix p m c cc nL s args Ts own) (hM : vx_Met l y ws rm Pc Qc XC mc ms free) (cw : CallW R s args own C index y bytes maxL ret ws rm mc ms n) (hp : PreV s H C b Pc As)
    (hg : g.method = m) (hn : As.length = n) (hsize : g.locals.size = nL) (hstack : g.stack = As.reverse ++ .ref b :: rest) (hW : 2 * g.monitorRoom + (rest.map fun v => v.category).sum ≤ 8) (hdg : decode cc g.pc = .ok (.invokevirtual index, 3)) (hf : cells + mc ≤ R.cells ∧ slots + ms ≤ R.slots) :
    vx_Run p l e R s m args below meth c H locs cells slots mc ms g rest (Qc (Value.ref b :: As).toArray) XC free := by
  have hK : vx_Back l R p e below s args y 3 8 (PreOf R mc ms Pc) (PostOf Qc mc ms free) (vx_Post XC mc ms free) := vx_callBack cw.1 hM hp.1
  obtain ⟨⟨-, -, -, -, -, -, hcode, -, hy, hlen, hl⟩, hin, hse⟩ := cw
  obtain ⟨hx, hb, hml, ho, -⟩ := S
  obtain ⟨-, ⟨cellB, hcB, hoB, hclB⟩, hPc⟩ := hp
  intro T hT X
  rcases vx_callV X hx (C := C) (bytes := bytes) (maxL := maxL) (ret := ret) ho hl hin hse hcode hy hK (by rw [hT]; exact hcB) hoB hclB hg (hsize.trans hml.symm) (argsL := As) (rest := rest) (fun sig h => hn.trans (hlen sig h)) hstack hW (by rw [hb]; exact hdg)
    (fun vm₁ hW₁ => ⟨hf.1, hf.2, hPc (T.setVm vm₁) hT hW₁⟩) with ⟨v, vm₁, ⟨U', l2, c2, s2⟩, hW₁, X', ⟨g', mk, t, L, e1, e2, hq, h1, hL, h2, h3⟩, st⟩ | ⟨q, vm₁, ⟨U', l2, c2, s2⟩, hW₁, X', ⟨g', mk, t, L, E, ce, e1, e2, hq, hce, hcv, hcl, h1, hL, h2, h3⟩, st⟩
  · dsimp only [Pt.U, Pt.locs, Pt.cells, Pt.slots] at X' e1 e2 h1 h2 h3 st
    subst h1; subst h2; subst h3
    exact Or.inl ⟨v, (T.setVm vm₁).calling g' mk (Value.ref b :: As).toArray, t, U', L, hT, X', hL, e1, e2, hq, st⟩
  · dsimp only [Pt.U, Pt.locs, Pt.cells, Pt.slots] at X' e1 e2 h1 h2 h3 st hcl
    subst h1; subst h2; subst h3
    exact Or.inr ⟨q, (T.setVm vm₁).calling g' mk (Value.ref b :: As).toArray, t, U', L, E, ce, hT, X', hL, e1, e2, hq, hce, hcv, vx_cls hW₁ hcl, st⟩
theorem vx_runS (S : CallFix p m c cc nL s args Ts own) (hM : vx_Met l y ws rm Pc Qc XC mc ms free) (cw : CallB R s args own index y bytes maxL ret ws rm mc ms n ∧ (Cond.static y).before args s = true) (hp : PreS s H Pc As)
    (hg : g.method = m) (hn : As.length = n) (hsize : g.locals.size = nL) (hstack : g.stack = As.reverse ++ rest) (hW : 2 * g.monitorRoom + (rest.map fun v => v.category).sum ≤ 8) (hdg : decode cc g.pc = .ok (.invokestatic index, 3)) (hf : cells + mc ≤ R.cells ∧ slots + ms ≤ R.slots) :
    vx_Run p l e R s m args below meth c H locs cells slots mc ms g rest (Qc As.toArray) XC free := by
  have hK : vx_Back l R p e below s args y 3 8 (PreOf R mc ms Pc) (PostOf Qc mc ms free) (vx_Post XC mc ms free) := vx_callBack cw.1 hM hp.1
  obtain ⟨⟨-, -, -, -, -, -, hcode, hini, hy, hlen, hl⟩, hstt⟩ := cw
  obtain ⟨hx, hb, hml, ho, -⟩ := S
  intro T hT X
  rcases vx_callS X hx (bytes := bytes) (maxL := maxL) (ret := ret) ho hl hstt hini hcode hy hK hg (hsize.trans hml.symm) (argsL := As) (rest := rest) (fun sig h => hn.trans (hlen sig h)) hstack hW (by rw [hb]; exact hdg)
    (fun vm₁ hW₁ => ⟨hf.1, hf.2, hp.2 (T.setVm vm₁) hT hW₁⟩) with ⟨v, vm₁, ⟨U', l2, c2, s2⟩, hW₁, X', ⟨g', mk, t, L, e1, e2, hq, h1, hL, h2, h3⟩, st⟩ | ⟨q, vm₁, ⟨U', l2, c2, s2⟩, hW₁, X', ⟨g', mk, t, L, E, ce, e1, e2, hq, hce, hcv, hcl, h1, hL, h2, h3⟩, st⟩
  · dsimp only [Pt.U, Pt.locs, Pt.cells, Pt.slots] at X' e1 e2 h1 h2 h3 st
    subst h1; subst h2; subst h3
    exact Or.inl ⟨v, (T.setVm vm₁).calling g' mk As.toArray, t, U', L, hT, X', hL, e1, e2, hq, st⟩
  · dsimp only [Pt.U, Pt.locs, Pt.cells, Pt.slots] at X' e1 e2 h1 h2 h3 st hcl
    subst h1; subst h2; subst h3
    exact Or.inr ⟨q, (T.setVm vm₁).calling g' mk As.toArray, t, U', L, E, ce, hT, X', hL, e1, e2, hq, hce, hcv, vx_cls hW₁ hcl, st⟩
end Runs
section Rows
variable {p : Program} {l : Launch} {e : Env} {R : Room} {s : State} {m : MethodId} {args : Array Value} {below : List Frame} {meth : Method} {c : Code} {H : Heap} {locs : List Loc} {cells slots : Nat} {Q : State → Prop}
variable {mc ms : Nat} {free : Addr → Prop} {A0 A1 : Nat → Prop} {H0 : Heap} {a : Array Value} {pc : Nat} {ls : Array Slot} {st0 rest : List Value}
theorem vx_keep {st₀ t T' : State} {L : List Loc} (h0 : st₀.heap = H) (e1 : T'.heap = t.heap) (hS : va_S A0 H0 H locs) (hA : ∀ q, q < H.size → A1 q → A0 q) (hf : ∀ q, free q → A0 q) (hL : ∀ q ∈ L, free q.base) (hF : va_F A1 st₀ t) :
    H.size ≤ T'.heap.size ∧ (∀ q : Nat, q < H.size → ¬ A1 q → T'.heap[q]? = H[q]?) ∧ va_S A0 H0 T'.heap (locs ++ L) := by
  obtain ⟨hz, hk⟩ := hF
  rw [h0] at hz hk
  exact ⟨by rw [e1]; exact hz, fun q h1 h2 => by rw [e1]; exact hk q h1 h2,
    ⟨Nat.le_trans hS.1 (by rw [e1]; exact hz), fun q h1 h2 => by rw [e1, hk q (Nat.lt_of_lt_of_le h1 hS.1) (fun z => h2 (hA q (Nat.lt_of_lt_of_le h1 hS.1) z))]; exact hS.2.1 q h1 h2, fun q hq => by
      rcases List.mem_append.mp hq with h | h
      · exact hS.2.2 q h
      · exact hf _ (hL q h)⟩⟩
theorem vx_calli {S SX : Type} {post : Int32 → S → Prop} {px : SX → Prop} {B : S → State → Prop} {BX : String → SX → State → Prop} {AX : Nat → Prop} (hr : vx_Run p l e R s m args below meth c H locs cells slots mc ms (F0 m pc ls st0) rest (va_Qi post B A1 a) (vx_X px BX AX) free) (hS : va_S A0 H0 H locs) (hA : ∀ q, q < H.size → A1 q → A0 q) (hf : ∀ q, free q → A0 q) (hAX : ∀ q, q < H.size → AX q → A0 q)
    (kx : ∀ (E : String) (ce : Cell) (q9 : Addr) (u : SX) (t : State) (H1 : Heap) (locs1 : List Loc), t.heap = H1 → s.vm.Alike t.vm → px u → BX E u t → H.size ≤ H1.size → (∀ q : Nat, q < H.size → ¬ AX q → H1[q]? = H[q]?) → va_S A0 H0 H1 locs1 → H1[q9]? = some ce → ce.vm = .none → s.vm.findClass E = some ce.cls → vx_W p l e R s m args below meth c H1 locs1 (cells + mc) (slots + ms) Q (F0 m pc ls rest) q9)
    (kk : ∀ (r : Int32) (u : S) (t : State) (H1 : Heap) (locs1 : List Loc), t.heap = H1 → s.vm.Alike t.vm → post r u → B u t → H.size ≤ H1.size → (∀ q : Nat, q < H.size → ¬ A1 q → H1[q]? = H[q]?) → va_S A0 H0 H1 locs1 → W p l e R s m args below meth c H1 locs1 (cells + mc) (slots + ms) Q (F0 m (pc + 3) ls (.int r :: rest))) : W p l e R s m args below meth c H locs cells slots Q (F0 m pc ls st0) := by
  intro T hT X
  rcases hr T hT X with ⟨v, st₀, t, T', L, h0, X', hL, e1, e2, ⟨⟨r, u, hv, hp, hb⟩, hF⟩, st⟩ | ⟨q, st₀, t, T', L, E, ce, h0, X', hL, e1, e2, ⟨u, hp, hb, hF⟩, hce, hcv, hcl, st⟩
  · cases hv
    obtain ⟨k1, k2, k3⟩ := vx_keep h0 e1 hS hA hf hL hF
    obtain ⟨t2, a1, b1⟩ := kk r u t T'.heap (locs ++ L) e1.symm (by rw [← e2]; exact X'.warmed.alike) hp hb k1 k2 k3 T' rfl X'
    exact ⟨t2, st t2 a1, b1⟩
  · obtain ⟨k1, k2, k3⟩ := vx_keep h0 e1 hS hAX hf hL hF
    obtain ⟨t2, a1, b1⟩ := kx E ce q u t T'.heap (locs ++ L) e1.symm (by rw [← e2]; exact X'.warmed.alike) hp hb k1 k2 k3 (by rw [e1]; exact hce) hcv hcl T' rfl X'
    exact ⟨t2, st.trans a1, b1⟩
theorem vx_calll {S SX : Type} {post : Int64 → S → Prop} {px : SX → Prop} {B : S → State → Prop} {BX : String → SX → State → Prop} {AX : Nat → Prop} (hr : vx_Run p l e R s m args below meth c H locs cells slots mc ms (F0 m pc ls st0) rest (va_Ql post B A1 a) (vx_X px BX AX) free) (hS : va_S A0 H0 H locs) (hA : ∀ q, q < H.size → A1 q → A0 q) (hf : ∀ q, free q → A0 q) (hAX : ∀ q, q < H.size → AX q → A0 q)
    (kx : ∀ (E : String) (ce : Cell) (q9 : Addr) (u : SX) (t : State) (H1 : Heap) (locs1 : List Loc), t.heap = H1 → s.vm.Alike t.vm → px u → BX E u t → H.size ≤ H1.size → (∀ q : Nat, q < H.size → ¬ AX q → H1[q]? = H[q]?) → va_S A0 H0 H1 locs1 → H1[q9]? = some ce → ce.vm = .none → s.vm.findClass E = some ce.cls → vx_W p l e R s m args below meth c H1 locs1 (cells + mc) (slots + ms) Q (F0 m pc ls rest) q9)
    (kk : ∀ (r : Int64) (u : S) (t : State) (H1 : Heap) (locs1 : List Loc), t.heap = H1 → s.vm.Alike t.vm → post r u → B u t → H.size ≤ H1.size → (∀ q : Nat, q < H.size → ¬ A1 q → H1[q]? = H[q]?) → va_S A0 H0 H1 locs1 → W p l e R s m args below meth c H1 locs1 (cells + mc) (slots + ms) Q (F0 m (pc + 3) ls (.long r :: rest))) : W p l e R s m args below meth c H locs cells slots Q (F0 m pc ls st0) := by
  intro T hT X
  rcases hr T hT X with ⟨v, st₀, t, T', L, h0, X', hL, e1, e2, ⟨⟨r, u, hv, hp, hb⟩, hF⟩, st⟩ | ⟨q, st₀, t, T', L, E, ce, h0, X', hL, e1, e2, ⟨u, hp, hb, hF⟩, hce, hcv, hcl, st⟩
  · cases hv
    obtain ⟨k1, k2, k3⟩ := vx_keep h0 e1 hS hA hf hL hF
    obtain ⟨t2, a1, b1⟩ := kk r u t T'.heap (locs ++ L) e1.symm (by rw [← e2]; exact X'.warmed.alike) hp hb k1 k2 k3 T' rfl X'
    exact ⟨t2, st t2 a1, b1⟩
  · obtain ⟨k1, k2, k3⟩ := vx_keep h0 e1 hS hAX hf hL hF
    obtain ⟨t2, a1, b1⟩ := kx E ce q u t T'.heap (locs ++ L) e1.symm (by rw [← e2]; exact X'.warmed.alike) hp hb k1 k2 k3 (by rw [e1]; exact hce) hcv hcl T' rfl X'
    exact ⟨t2, st.trans a1, b1⟩
theorem vx_callf {S SX : Type} {post : UInt32 → S → Prop} {px : SX → Prop} {B : S → State → Prop} {BX : String → SX → State → Prop} {AX : Nat → Prop} (hr : vx_Run p l e R s m args below meth c H locs cells slots mc ms (F0 m pc ls st0) rest (va_Qf post B A1 a) (vx_X px BX AX) free) (hS : va_S A0 H0 H locs) (hA : ∀ q, q < H.size → A1 q → A0 q) (hf : ∀ q, free q → A0 q) (hAX : ∀ q, q < H.size → AX q → A0 q)
    (kx : ∀ (E : String) (ce : Cell) (q9 : Addr) (u : SX) (t : State) (H1 : Heap) (locs1 : List Loc), t.heap = H1 → s.vm.Alike t.vm → px u → BX E u t → H.size ≤ H1.size → (∀ q : Nat, q < H.size → ¬ AX q → H1[q]? = H[q]?) → va_S A0 H0 H1 locs1 → H1[q9]? = some ce → ce.vm = .none → s.vm.findClass E = some ce.cls → vx_W p l e R s m args below meth c H1 locs1 (cells + mc) (slots + ms) Q (F0 m pc ls rest) q9)
    (kk : ∀ (r : UInt32) (u : S) (t : State) (H1 : Heap) (locs1 : List Loc), t.heap = H1 → s.vm.Alike t.vm → post r u → B u t → H.size ≤ H1.size → (∀ q : Nat, q < H.size → ¬ A1 q → H1[q]? = H[q]?) → va_S A0 H0 H1 locs1 → W p l e R s m args below meth c H1 locs1 (cells + mc) (slots + ms) Q (F0 m (pc + 3) ls (.float r :: rest))) : W p l e R s m args below meth c H locs cells slots Q (F0 m pc ls st0) := by
  intro T hT X
  rcases hr T hT X with ⟨v, st₀, t, T', L, h0, X', hL, e1, e2, ⟨⟨r, u, hv, hp, hb⟩, hF⟩, st⟩ | ⟨q, st₀, t, T', L, E, ce, h0, X', hL, e1, e2, ⟨u, hp, hb, hF⟩, hce, hcv, hcl, st⟩
  · cases hv
    obtain ⟨k1, k2, k3⟩ := vx_keep h0 e1 hS hA hf hL hF
    obtain ⟨t2, a1, b1⟩ := kk r u t T'.heap (locs ++ L) e1.symm (by rw [← e2]; exact X'.warmed.alike) hp hb k1 k2 k3 T' rfl X'
    exact ⟨t2, st t2 a1, b1⟩
  · obtain ⟨k1, k2, k3⟩ := vx_keep h0 e1 hS hAX hf hL hF
    obtain ⟨t2, a1, b1⟩ := kx E ce q u t T'.heap (locs ++ L) e1.symm (by rw [← e2]; exact X'.warmed.alike) hp hb k1 k2 k3 (by rw [e1]; exact hce) hcv hcl T' rfl X'
    exact ⟨t2, st.trans a1, b1⟩
theorem vx_calld {S SX : Type} {post : UInt64 → S → Prop} {px : SX → Prop} {B : S → State → Prop} {BX : String → SX → State → Prop} {AX : Nat → Prop} (hr : vx_Run p l e R s m args below meth c H locs cells slots mc ms (F0 m pc ls st0) rest (va_Qd post B A1 a) (vx_X px BX AX) free) (hS : va_S A0 H0 H locs) (hA : ∀ q, q < H.size → A1 q → A0 q) (hf : ∀ q, free q → A0 q) (hAX : ∀ q, q < H.size → AX q → A0 q)
    (kx : ∀ (E : String) (ce : Cell) (q9 : Addr) (u : SX) (t : State) (H1 : Heap) (locs1 : List Loc), t.heap = H1 → s.vm.Alike t.vm → px u → BX E u t → H.size ≤ H1.size → (∀ q : Nat, q < H.size → ¬ AX q → H1[q]? = H[q]?) → va_S A0 H0 H1 locs1 → H1[q9]? = some ce → ce.vm = .none → s.vm.findClass E = some ce.cls → vx_W p l e R s m args below meth c H1 locs1 (cells + mc) (slots + ms) Q (F0 m pc ls rest) q9)
    (kk : ∀ (r : UInt64) (u : S) (t : State) (H1 : Heap) (locs1 : List Loc), t.heap = H1 → s.vm.Alike t.vm → post r u → B u t → H.size ≤ H1.size → (∀ q : Nat, q < H.size → ¬ A1 q → H1[q]? = H[q]?) → va_S A0 H0 H1 locs1 → W p l e R s m args below meth c H1 locs1 (cells + mc) (slots + ms) Q (F0 m (pc + 3) ls (.double r :: rest))) : W p l e R s m args below meth c H locs cells slots Q (F0 m pc ls st0) := by
  intro T hT X
  rcases hr T hT X with ⟨v, st₀, t, T', L, h0, X', hL, e1, e2, ⟨⟨r, u, hv, hp, hb⟩, hF⟩, st⟩ | ⟨q, st₀, t, T', L, E, ce, h0, X', hL, e1, e2, ⟨u, hp, hb, hF⟩, hce, hcv, hcl, st⟩
  · cases hv
    obtain ⟨k1, k2, k3⟩ := vx_keep h0 e1 hS hA hf hL hF
    obtain ⟨t2, a1, b1⟩ := kk r u t T'.heap (locs ++ L) e1.symm (by rw [← e2]; exact X'.warmed.alike) hp hb k1 k2 k3 T' rfl X'
    exact ⟨t2, st t2 a1, b1⟩
  · obtain ⟨k1, k2, k3⟩ := vx_keep h0 e1 hS hAX hf hL hF
    obtain ⟨t2, a1, b1⟩ := kx E ce q u t T'.heap (locs ++ L) e1.symm (by rw [← e2]; exact X'.warmed.alike) hp hb k1 k2 k3 (by rw [e1]; exact hce) hcv hcl T' rfl X'
    exact ⟨t2, st.trans a1, b1⟩
theorem vx_callv {S SX : Type} {post : S → Prop} {px : SX → Prop} {B : S → State → Prop} {BX : String → SX → State → Prop} {AX : Nat → Prop} (hr : vx_Run p l e R s m args below meth c H locs cells slots mc ms (F0 m pc ls st0) rest (va_Qv post B A1 a) (vx_X px BX AX) free) (hS : va_S A0 H0 H locs) (hA : ∀ q, q < H.size → A1 q → A0 q) (hf : ∀ q, free q → A0 q) (hAX : ∀ q, q < H.size → AX q → A0 q)
    (kx : ∀ (E : String) (ce : Cell) (q9 : Addr) (u : SX) (t : State) (H1 : Heap) (locs1 : List Loc), t.heap = H1 → s.vm.Alike t.vm → px u → BX E u t → H.size ≤ H1.size → (∀ q : Nat, q < H.size → ¬ AX q → H1[q]? = H[q]?) → va_S A0 H0 H1 locs1 → H1[q9]? = some ce → ce.vm = .none → s.vm.findClass E = some ce.cls → vx_W p l e R s m args below meth c H1 locs1 (cells + mc) (slots + ms) Q (F0 m pc ls rest) q9)
    (kk : ∀ (u : S) (t : State) (H1 : Heap) (locs1 : List Loc), t.heap = H1 → s.vm.Alike t.vm → post u → B u t → H.size ≤ H1.size → (∀ q : Nat, q < H.size → ¬ A1 q → H1[q]? = H[q]?) → va_S A0 H0 H1 locs1 → W p l e R s m args below meth c H1 locs1 (cells + mc) (slots + ms) Q (F0 m (pc + 3) ls (rest))) : W p l e R s m args below meth c H locs cells slots Q (F0 m pc ls st0) := by
  intro T hT X
  rcases hr T hT X with ⟨v, st₀, t, T', L, h0, X', hL, e1, e2, ⟨⟨u, hv, hp, hb⟩, hF⟩, st⟩ | ⟨q, st₀, t, T', L, E, ce, h0, X', hL, e1, e2, ⟨u, hp, hb, hF⟩, hce, hcv, hcl, st⟩
  · cases hv
    obtain ⟨k1, k2, k3⟩ := vx_keep h0 e1 hS hA hf hL hF
    obtain ⟨t2, a1, b1⟩ := kk u t T'.heap (locs ++ L) e1.symm (by rw [← e2]; exact X'.warmed.alike) hp hb k1 k2 k3 T' rfl X'
    exact ⟨t2, st t2 a1, b1⟩
  · obtain ⟨k1, k2, k3⟩ := vx_keep h0 e1 hS hAX hf hL hF
    obtain ⟨t2, a1, b1⟩ := kx E ce q u t T'.heap (locs ++ L) e1.symm (by rw [← e2]; exact X'.warmed.alike) hp hb k1 k2 k3 (by rw [e1]; exact hce) hcv hcl T' rfl X'
    exact ⟨t2, st.trans a1, b1⟩
/-- caught by the row x of this method's table; the rows ahead don't take it -/
theorem vx_catch {own name : String} {E : String} {ce : Cell} {q : Addr} (hown : s.vm.findClass own = some m.cls) (pre : List ExceptionTableEntry) (x : ExceptionTableEntry) (suf : List ExceptionTableEntry) (hsplit : c.exceptionTable.toList = pre ++ x :: suf)
    (hpass : ∀ z ∈ pre, covers z pc = false ∨ (z.catchType ≠ 0 ∧ ∃ nm : String, (Cond.classLink own z.catchType nm).before args s = true ∧ va_Nc E nm s)) (hx : covers x pc = true) (h0 : x.catchType ≠ 0)
    (hlink : (Cond.classLink own x.catchType name).before args s = true) (hcast : (Cond.castable E name).before args s = true) (hcell : H[q]? = some ce) (hv : ce.vm = .none) (hcl : s.vm.findClass E = some ce.cls)
    (kk : W p l e R s m args below meth c H locs cells slots Q (F0 m x.handlerPc ls [.ref q])) : vx_W p l e R s m args below meth c H locs cells slots Q (F0 m pc ls rest) q := by
  intro T hT X
  have hpl : e.platform.magicAccessors = ({} : Platform).magicAccessors := by rw [X.admits.platform]
  obtain ⟨c3, c4, hc3, hc4, hasg⟩ := Cond.castable_spec hcast
  cases Option.some.inj (hc3.symm.trans hcl)
  obtain ⟨c5, hc5, hcl5⟩ := Cond.classLink_spec hown hlink e.platform hpl
  cases Option.some.inj (hc4.symm.trans hc5)
  obtain ⟨vm', X', st⟩ := X.thenCaughtThrough q (g := F0 m pc ls rest) rfl (Steps.refl _) (by rw [hT]; exact hcell) (by rw [hv]; rfl) (by obtain ⟨k9, h9, -⟩ := Vm.findClass_spec hcl; exact ⟨k9, h9⟩) pre x suf hsplit
    (fun z hz => by
      rcases hpass z hz with h | ⟨hz0, nm, hl1, hn1⟩
      · exact Or.inl h
      · obtain ⟨c6, hc6, hcl6⟩ := Cond.classLink_spec hown hl1 e.platform hpl
        obtain ⟨a8, b8, h1, h2, h3⟩ := hn1
        cases Option.some.inj (h1.symm.trans hcl)
        cases Option.some.inj (h2.symm.trans hc6)
        exact Or.inr ⟨hz0, _, hcl6, h3⟩) hx (Or.inr ⟨h0, c4, hcl5, hasg⟩)
  obtain ⟨t, a1, b1⟩ := kk (T.setVm vm') hT X'
  exact ⟨t, st.trans a1, b1⟩
end Rows
section Ends
variable {p : Program} {l : Launch} {e : Env} {R : Room} {s : State} {m : MethodId} {args : Array Value} {below : List Frame} {meth : Method} {c : Code} {H : Heap} {locs : List Loc} {cells slots : Nat} {Q : State → Prop}
variable {mc ms : Nat} {free : Addr → Prop} {A0 A1 : Nat → Prop} {H0 : Heap} {a : Array Value} {ls : Array Slot} {st0 rest : List Value}
variable {Qc : Array Value → State → Outcome → State → Prop} {XC : String → State → State → Prop}
/-- what a body that may throw owes at its end -/
def vx_MQ (below : List Frame) (Qc : Array Value → State → Outcome → State → Prop) (XC : String → State → State → Prop) (a : Array Value) (s : State) (mc ms : Nat) (free : Addr → Prop) : State → Prop := fun t =>
  ∃ o, t.status = .running ∧ Ended t below o ∧ vx_Q Qc XC mc ms free a s o t
theorem vx_ret {g : JFrame} {mc ms : Nat} (k : W p l e R s m args below meth c H locs cells slots (MQ below Qc args s mc ms free) g) : W p l e R s m args below meth c H locs cells slots (vx_MQ below Qc XC args s mc ms free) g := by
  intro T hT X
  obtain ⟨t, a1, o, b1, b2, b3, b4⟩ := k T hT X
  exact ⟨t, a1, o, b1, b2, Or.inl ⟨b3, b4⟩⟩
/-- not caught here: it goes on to the caller -/
theorem vx_widen {g : JFrame} {q : Addr} {k n : Nat} (h1 : cells ≤ k) (h2 : slots ≤ n) (kk : vx_W p l e R s m args below meth c H locs k n Q g q) : vx_W p l e R s m args below meth c H locs cells slots Q g q := fun T hT X => kk T hT (stand_widen X h1 h2)
theorem vx_out {pc : Nat} {E : String} {ce : Cell} {q : Addr} {mc ms : Nat} (hout : ∀ x ∈ c.exceptionTable.toList, covers x pc = false) (hlocks : meth.locks = false) (hcell : H[q]? = some ce) (hv : ce.vm = .none) (hcl : s.vm.findClass E = some ce.cls)
    (hx : ∀ t : State, t.heap = H → s.vm.Alike t.vm → XC E s t) (hf : ∀ z ∈ locs, free z.base) (hc : cells ≤ mc) (hs : slots ≤ ms) :
    vx_W p l e R s m args below meth c H locs cells slots (vx_MQ below Qc XC args s mc ms free) (F0 m pc ls rest) q := by
  intro T hT X
  obtain ⟨st1, hrun, hend, hW, hsm⟩ := X.leaveThrown q (g := F0 m pc ls rest) rfl rfl rfl hout hlocks
  have hcell9 : (T.setFrames (.throwing q :: below)).heap[q]? = some ce := by
    show T.heap[q]? = some ce
    rw [hT]; exact hcell
  exact ⟨_, st1, .threw q, hrun, hend, Or.inr ⟨q, rfl, E, ce, locs, hx _ hT hW.alike, hcell9, hv, hcl, hW, hsm.mono hc hs, hf⟩⟩
theorem vx_frame {U : State} {k n : Nat} (h : s.sameButNew ({ U with vm := s.vm } : State) locs k n) : s.heap.size ≤ U.heap.size ∧ ∀ q : Nat, q < s.heap.size → (∀ z ∈ locs, z.base ≠ q) → U.heap[q]? = s.heap[q]? := by
  obtain ⟨-, h2, -, -, -, h6⟩ := h
  refine ⟨h2, fun q hq hz => ?_⟩
  obtain ⟨c9, e1, e2, e3, e4⟩ := h6 q _ (Array.getElem?_eq_getElem hq)
  have hs : c9.slots = (s.heap[q]).slots := Array.ext_getElem? fun i => e4 i fun hm => hz _ hm rfl
  have h9 : c9 = s.heap[q] := by
    rw [hs] at e2
    exact e2
  have e5 : U.heap[q]? = some c9 := e1
  rw [e5, h9, Array.getElem?_eq_getElem hq]
/-- the words of a throw but the four that speak of the heap -/
def vx_no (w : Cond) : Bool := decide (w ≠ .isRef (.static Bundle.tN "UNASSIGNED_STACK" Bundle.steD)) && decide (w ≠ .isRef (.static Bundle.tN "SUPPRESSED_SENTINEL" Bundle.listD)) && decide (w ≠ .laysStatic Bundle.tN "UNASSIGNED_STACK" Bundle.steD) && decide (w ≠ .laysStatic Bundle.tN "SUPPRESSED_SENTINEL" Bundle.listD)
def vx_at0 (own : String) (ic : Nat) (X : String) (names : List String) : List Cond := (Bundle.ownAtoms0 own ic X names).filter vx_no
def vx_atS (own : String) (ic : Nat) (X : String) (names : List String) : List Cond := (Bundle.ownAtoms own ic X names).filter vx_no
/-- a word that the tables alone decide, or a good one -/
def vx_ot (w : Cond) : Bool := w.onTables || goodWord w
theorem vx_ot_at {args a' : Array Value} {s U : State} {w : Cond} (hW : s.WarmedH U.vm) (hvm : s.vm = U.vm) (hg : vx_ot w = true) (h : w.before args s = true) : w.before a' U = true := by
  simp only [vx_ot, Bool.or_eq_true] at hg
  rcases hg with hg | hg
  · exact va_tabs hg hvm h
  · exact word_at hW (good_of_word hg) h
/-- a list's words: the good ones out of the method's own list, the others by premises of their own -/
theorem vx_hat {args : Array Value} {s : State} {L B : List Cond} (h1 : ∀ w ∈ L.filter goodWord, w.before args s = true) (h2 : ∀ w ∈ L.filter (fun w => !goodWord w), w ∈ B) (h3 : ∀ w ∈ B, w.before args s = true) : ∀ w ∈ L, w.before args s = true := by
  intro w hw
  by_cases g : goodWord w = true
  · exact h1 w (List.mem_filter.mpr ⟨hw, g⟩)
  · refine h3 w (h2 w (List.mem_filter.mpr ⟨hw, ?_⟩))
    show (!goodWord w) = true
    cases hgw : goodWord w
    · rfl
    · exact absurd hgw g
theorem vx_c {args : Array Value} {s : State} {w : Cond} {B : List Cond} (h : w.before args s = true) (t : ∀ w ∈ B, w.before args s = true) : ∀ w' ∈ w :: B, w'.before args s = true := fun w' h' => (List.mem_cons.mp h').elim (fun e => by rw [e]; exact h) (t w')
theorem vx_n {args : Array Value} {s : State} : ∀ w ∈ ([] : List Cond), w.before args s = true := fun _ h => nomatch h
theorem vx_own {args : Array Value} {s : State} {L : List Cond} (h1 : ∀ w ∈ L.filter vx_no, w.before args s = true)
    (hU : (Cond.isRef (.static Bundle.tN "UNASSIGNED_STACK" Bundle.steD)).before args s = true) (hN : (Cond.isRef (.static Bundle.tN "SUPPRESSED_SENTINEL" Bundle.listD)).before args s = true)
    (lU : (Cond.laysStatic Bundle.tN "UNASSIGNED_STACK" Bundle.steD).before args s = true) (lN : (Cond.laysStatic Bundle.tN "SUPPRESSED_SENTINEL" Bundle.listD).before args s = true) : ∀ w ∈ L, w.before args s = true := by
  intro w hw
  by_cases e1 : w = .isRef (.static Bundle.tN "UNASSIGNED_STACK" Bundle.steD)
  · rw [e1]; exact hU
  · by_cases e2 : w = .isRef (.static Bundle.tN "SUPPRESSED_SENTINEL" Bundle.listD)
    · rw [e2]; exact hN
    · by_cases e3 : w = .laysStatic Bundle.tN "UNASSIGNED_STACK" Bundle.steD
      · rw [e3]; exact lU
      · by_cases e4 : w = .laysStatic Bundle.tN "SUPPRESSED_SENTINEL" Bundle.listD
        · rw [e4]; exact lN
        · exact h1 w (List.mem_filter.mpr ⟨hw, by unfold vx_no; rw [decide_eq_true e1, decide_eq_true e2, decide_eq_true e3, decide_eq_true e4]; rfl⟩)
/-- where a static field lies, its class's statics cell in H -/
def vx_L (C n d : String) (A : Nat → Prop) (U : State) (H : Heap) : Prop := ∃ (c : ClassId) (k : Class) (i : Nat) (f : Field) (a : Nat) (cell : Cell), U.vm.findClass C = some c ∧ U.fieldFound? C n d = some (c, k, i, f) ∧ f.isStatic = true ∧ k.statics = some a ∧ H[a]? = some cell ∧ cell.vm.isStatics = true ∧ cell.cls = c ∧ f.slot < cell.slots.size ∧ k.staticTypes[f.slot]? = some f.type ∧ ¬ A a
theorem vx_L.moved {C n d : String} {A : Nat → Prop} {u U : State} {H : Heap} (hvm : u.vm.Alike U.vm) (h : vx_L C n d A u H) : vx_L C n d A U H := by
  obtain ⟨c, k, i, f, a, cell, h1, h2, h3, h4, h5, h6, h7, h8, h9, h10⟩ := h
  obtain ⟨k', hi', he⟩ := State.fieldFound?_setVm hvm h2
  exact ⟨c, k', i, f, a, cell, by rw [hvm.findClass]; exact h1, hi', h3, by rw [he]; exact h4, h5, h6, h7, h8, by rw [he]; exact h9, h10⟩
theorem vx_L.kept {C n d : String} {A : Nat → Prop} {U : State} {H H1 : Heap} (h : vx_L C n d A U H) (hq : ∀ a : Nat, a < H.size → ¬ A a → H1[a]? = H[a]?) : vx_L C n d A U H1 := by
  obtain ⟨c, k, i, f, a, cell, h1, h2, h3, h4, h5, h6, h7, h8, h9, h10⟩ := h
  exact ⟨c, k, i, f, a, cell, h1, h2, h3, h4, by rw [hq a (Array.getElem?_eq_some_iff.mp h5).1 h10]; exact h5, h6, h7, h8, h9, h10⟩
theorem vx_L.narrow {C n d : String} {A B : Nat → Prop} {U : State} {H : Heap} (h : vx_L C n d A U H) (hAB : ∀ q, B q → A q) : vx_L C n d B U H := by
  obtain ⟨c, k, i, f, a, cell, h1, h2, h3, h4, h5, h6, h7, h8, h9, h10⟩ := h
  exact ⟨c, k, i, f, a, cell, h1, h2, h3, h4, h5, h6, h7, h8, h9, fun z => h10 (hAB _ z)⟩
theorem vx_L.word {C n d : String} {A : Nat → Prop} {s : State} {args : Array Value} (h : vx_L C n d A s s.heap) : (Cond.laysStatic C n d).before args s = true := by
  obtain ⟨c, k, i, f, a, cell, h1, h2, h3, h4, h5, h6, h7, h8, h9, -⟩ := h
  show (Cond.laysStatic C n d).holds args s none s [] = true
  exact Cond.laysStatic_of h1 h2 h3 h4 h5 h6 h7 h8 h9
/-- .. and what it holds: null or some reference -/
def vx_Zq (C n d : String) (A : Nat → Prop) (U : State) (H : Heap) : Prop := va_Zq C n d A U H ∧ vx_L C n d A U H
theorem vx_Zq.moved {C n d : String} {A : Nat → Prop} {u U : State} {H : Heap} (hvm : u.vm.Alike U.vm) (h : vx_Zq C n d A u H) : vx_Zq C n d A U H := ⟨va_Zq.moved hvm h.1, vx_L.moved hvm h.2⟩
theorem vx_Zq.kept {C n d : String} {A : Nat → Prop} {U : State} {H H1 : Heap} (h : vx_Zq C n d A U H) (hq : ∀ a : Nat, a < H.size → ¬ A a → H1[a]? = H[a]?) : vx_Zq C n d A U H1 := ⟨va_Zq.kept h.1 hq, vx_L.kept h.2 hq⟩
theorem vx_Zq.narrow {C n d : String} {A B : Nat → Prop} {U : State} {H : Heap} (h : vx_Zq C n d A U H) (hAB : ∀ q, B q → A q) : vx_Zq C n d B U H := ⟨va_Zq.narrow h.1 hAB, vx_L.narrow h.2 hAB⟩
theorem vx_Zqof {args : Array Value} {s : State} {C n d : String} {A : Nat → Prop} (hl : (Cond.laysStatic C n d).before args s = true) (hini : (Cond.initialized C).before args s = true) (h : (Cond.isRef (.static C n d)).before args s = true) (hA : ∀ a : Nat, a < s.heap.size → ¬ A a) : vx_Zq C n d A s s.heap := by
  refine ⟨va_Zqof hl hini h hA, ?_⟩
  obtain ⟨c, k, i, f, a, cell, h1, h2, h3, h4, h5, h6, h7, h8, h9⟩ := Cond.laysStatic_spec hl
  exact ⟨c, k, i, f, a, cell, h1, h2, h3, h4, h5, h6, h7, h8, h9, hA a (Array.getElem?_eq_some_iff.mp h5).1⟩
theorem vx_isRef {C n d : String} {v : Value} {A : Nat → Prop} {s : State} {args : Array Value} (h : va_Z C n d v A s s.heap) (hv : v.isRef = true) : (Cond.isRef (.static C n d)).before args s = true := by
  obtain ⟨cf, kf, fi, f, a, cell, h1, h2, h3, h4, h5, h6, h7, -⟩ := h
  have he : (Term.static C n d).eval args s none [] s = some v := by
    simp [Term.eval, State.fieldNamed?, h1, h2, h4, h5, h6, h7]
  simp only [Cond.before, Cond.holds, Cond.value, he]
  cases v <;> simp_all [Value.isRef]
theorem vx_isRefq {C n d : String} {A : Nat → Prop} {s : State} {args : Array Value} (h : va_Zq C n d A s s.heap) : (Cond.isRef (.static C n d)).before args s = true := by
  rcases h with h | ⟨t, h⟩
  · exact vx_isRef h rfl
  · exact vx_isRef h rfl
/-- the same frame, seen from here: as if the method were called anew in this heap -/
theorem vx_rebase {T : State} (X : Stand p l e R s m args below meth c T locs cells slots) {R' : Room} (hf : R'.frames ≤ R.frames) (hl : R'.locals ≤ R.locals) (hc : cells + R'.cells ≤ R.cells) (hs : slots + R'.slots ≤ R.slots) :
    Stand p l e R' ((T.setVm s.vm).setFrames (.invoking m args :: below)) m args below meth c T [] 0 0 := by
  have htop : (T.setVm s.vm).topJava?.isSome := X.here.top
  have hF : ((T.setVm s.vm).setFrames (.invoking m args :: below)).frames = .invoking m args :: below := State.frames_setFrames _ (State.cur_lt_of_top htop)
  obtain ⟨g₀, hg0⟩ := Option.isSome_iff_exists.mp htop
  obtain ⟨r, hr⟩ := State.topJava?_eq_some.mp hg0
  have hl9 : e.platform.stackLimits (T.setVm s.vm).me = e.platform.stackLimits s.me := X.limits
  have hb9 : (T.setVm s.vm).me.stackBytes = s.me.stackBytes := X.bytes
  refine ⟨X.admits, X.cas, X.clock, hF, ?_, X.hears, X.method, X.code, X.here, X.tail, X.warmed, ?_, ?_, ?_⟩
  · have h := X.room
    have hU : ((T.setVm s.vm).setFrames (.invoking m args :: below)).localsInUse = s.localsInUse := by
      rw [State.localsInUse_invoking hF (meth := meth) (c := c) X.method X.code, State.localsInUse_invoking X.frames X.method X.code]
    simp only [State.hasRoom, Bool.and_eq_true, decide_eq_true_eq] at h ⊢
    obtain ⟨⟨⟨⟨h1, h2, h3, h4, h5, h6⟩, h7⟩, h8⟩, h9⟩ := h
    rw [X.frames, List.length_cons] at h2 h3
    have q1 := X.heapSize
    have q2 := X.used
    simp only [hF, hU, List.length_cons, State.stackLimits_setFrames, State.stackBytes_setFrames, hl9, hb9]
    refine ⟨⟨⟨⟨by omega, by omega, by omega, by omega, by omega, h6⟩, ?_⟩, ?_⟩, X.book⟩
    · show T.heap.size + R'.cells ≤ e.platform.maxCells
      omega
    · show T.slotsUsed + R'.slots ≤ e.platform.maxSlots
      omega
  · rw [State.stackLimits_setFrames]; rfl
  · rw [State.stackBytes_setFrames]; rfl
  · refine ⟨?_, Nat.le_refl _, Nat.le_refl _, ?_, ?_, fun a c9 h9 => ⟨c9, h9, rfl, rfl, fun _ _ => rfl⟩⟩
    · obtain ⟨t, ht, -⟩ := State.frames_cons hr
      show T.setVm s.vm = { ((T.setVm s.vm).setFrames (.invoking m args :: below)).setFrames (T.setVm s.vm).frames with heap := T.heap, slotsUsed := T.slotsUsed }
      rw [State.setFrames_setFrames, State.setFrames_self ht]
      rfl
    · show T.slotsUsed = T.slotsUsed + ((T.heap.toList.drop T.heap.size).map (·.slots.size)).sum
      rw [List.drop_eq_nil_of_le (Nat.le_of_eq Array.length_toList)]
      rfl
    · show ((T.heap.toList.drop T.heap.size).map (·.slots.size)).sum ≤ 0
      rw [List.drop_eq_nil_of_le (Nat.le_of_eq Array.length_toList)]
      exact Nat.le_refl _
/-- 'throw new E()': new; dup; invokespecial; athrow -/
theorem vx_throw0 {cc : ByteArray} {pc : Nat} (hexec : p.tables.exec = Jvm.exec) (hb : c.code = cc) (hl : l.stackTraces = false) {own cls : String} {names : List String} {ik ic mc ms : Nat} {A : Nat → Prop}
    (hown : s.vm.findClass own = some m.cls) (hcls : Bundle.fit cls = true) (hnames : ∀ n ∈ names, Bundle.fit n = true)
    (hk : (Cond.classLink own ik cls).before args s = true) (hini : (Cond.initialized cls).before args s = true) (hat : ∀ w ∈ vx_at0 own ic cls names, w.before args s = true)
    (hgood : ∀ w ∈ Cond.classLink own ik cls :: Cond.initialized cls :: vx_at0 own ic cls names, vx_ot w = true)
    (hU : vx_Zq Bundle.tN "UNASSIGNED_STACK" Bundle.steD A s s.heap) (hN : vx_Zq Bundle.tN "SUPPRESSED_SENTINEL" Bundle.listD A s s.heap) (hS : va_S A s.heap H locs) (hsize : ls.size = c.maxLocals)
    (d0 : decode cc pc = .ok (.new ik, 3)) (d3 : decode cc (pc + 3) = .ok (.dup, 1)) (d4 : decode cc (pc + 4) = .ok (.invokespecial ic, 3)) (d7 : decode cc (pc + 7) = .ok (.athrow, 1))
    (hout : ∀ x ∈ c.exceptionTable.toList, covers x (pc + 7) = false)
    (hRframes : names.length + 3 < R.frames) (hRlocals : (rest.map fun v => v.category).sum + (13 * (names.length + 1) + 42) ≤ R.locals) (hRcells : cells + 1 ≤ R.cells) (hRslots : slots + 6 ≤ R.slots) (hlocks : meth.locks = false)
    (hx : ∀ t : State, s.vm.Alike t.vm → H.size ≤ t.heap.size → (∀ q : Nat, q < H.size → t.heap[q]? = H[q]?) → XC cls s t)
    (hf : ∀ z ∈ locs, free z.base) (hc : cells + 1 ≤ mc) (hs : slots + 6 ≤ ms) :
    W p l e R s m args below meth c H locs cells slots (vx_MQ below Qc XC args s mc ms free) (F0 m pc ls rest) := by
  intro T hT X
  have htr : e.platform.stackTraces = false := (show e.platform.stackTraces = l.stackTraces by rw [X.admits.platform]).trans hl
  have Y := vx_rebase X (R' := { frames := R.frames, locals := R.locals, cells := 1, slots := 6 }) (Nat.le_refl _) (Nat.le_refl _) hRcells hRslots
  obtain ⟨s', hA⟩ : ∃ z, z = (T.setVm s.vm).setFrames (.invoking m args :: below) := ⟨_, rfl⟩
  rw [← hA] at Y
  have hvm : s'.vm = s.vm := by rw [hA]; rfl
  have hhp : s'.heap = H := by rw [hA]; exact hT
  have hW0 : s.WarmedH s'.vm := by rw [hvm]; exact State.WarmedH.refl s
  have hat' : ∀ w ∈ vx_at0 own ic cls names, w.before args s' = true := fun w hw => vx_ot_at hW0 hvm.symm (hgood w (List.mem_cons_of_mem _ (List.mem_cons_of_mem _ hw))) (hat w hw)
  have hk' : (Cond.classLink own ik cls).before args s' = true := vx_ot_at hW0 hvm.symm (hgood _ List.mem_cons_self) hk
  have hini' : (Cond.initialized cls).before args s' = true := vx_ot_at hW0 hvm.symm (hgood _ (List.mem_cons_of_mem _ List.mem_cons_self)) hini
  have hU' : vx_Zq Bundle.tN "UNASSIGNED_STACK" Bundle.steD A s' s'.heap := by rw [hhp]; exact vx_Zq.moved hW0.alike (hU.kept hS.2.1)
  have hN' : vx_Zq Bundle.tN "SUPPRESSED_SENTINEL" Bundle.listD A s' s'.heap := by rw [hhp]; exact vx_Zq.moved hW0.alike (hN.kept hS.2.1)
  have h : ∀ w ∈ Bundle.ownAtoms0 own ic cls names, w.before args s' = true := vx_own hat' (vx_isRefq hU'.1) (vx_isRefq hN'.1) hU'.2.word hN'.2.word
  have hown' : s'.vm.findClass own = some m.cls := by rw [hvm]; exact hown
  have hins : (Cond.instantiable cls 6).before args s' = true := h _ (by simp [Bundle.ownAtoms0])
  obtain ⟨vm₁, cX, kX, hfX, hkX, -, -, X₁, st1⟩ := Y.newCold hexec (own := own) (C := cls) (index := ik) (n := 6) hown' hk' hins hini'
    (g := F0 m pc ls rest) rfl (by rw [hb]; exact d0) (Nat.le_refl _) (Nat.le_refl _)
  generalize hT1 : (T.setVm vm₁).pushCell { cls := cX, slots := kX.instanceTypes.map defaultValue, vm := .none } = T1 at X₁ st1
  have hcat : (Value.ref T.heap.size).category = 1 := rfl
  have hcellA : T1.heap[T.heap.size]? = some (freshCell cX kX) := by rw [← hT1]; exact State.heap_pushCell_size _ _
  have d3' : decode c.code (pc + 3) = .ok (.dup, 1) := by rw [hb]; exact d3
  obtain ⟨U, hsteps, hrun, hend, hW, hsame, ce, hce, hO⟩ := X₁.ctorThrow0 hexec htr (own := own) (cls := cls) (names := names) (ic := ic) hown' hcls hnames h (fun x hx => nomatch hx) hfX hkX hcellA (by rw [hhp, hT]; exact Nat.le_refl _)
    (g := { method := m, pc := pc + 4, locals := ls, stack := .ref T.heap.size :: .ref T.heap.size :: rest, locked := none }) rfl hsize rfl rfl (rest := rest) rfl
    (by rw [hb]; exact d4) (by rw [hb]; exact d7) hout hRframes (by simp only [List.map_cons, List.sum_cons, hcat]; omega) hlocks
  obtain ⟨f1, f2⟩ := vx_frame hsame
  rw [hhp] at f1 f2
  have hWs : s.WarmedH U.vm := State.WarmedH.trans hW0 hW
  have hcl : s.vm.findClass cls = some ce.cls := by
    have h9 := hO.cls
    rw [hvm] at h9
    exact h9
  have hall : s.sameButNew ({ U with vm := s.vm } : State) locs mc ms := by
    subst hA
    obtain ⟨e1, e2⟩ := hsame
    rw [State.setFrames_setFrames] at e1
    have h2 : (T.setVm s.vm).sameButNew ({ U with vm := s.vm } : State) [] (0 + 1) (0 + 6) := ⟨e1, e2⟩
    have h3 := X.same.trans h2
    rw [List.append_nil] at h3
    exact h3.mono hc hs
  refine ⟨U, ?_, .threw T.heap.size, hrun, hend, Or.inr ⟨T.heap.size, rfl, cls, ce, locs, hx U hWs.alike f1 (fun q hq => f2 q hq (fun z hz => nomatch hz)), hce, hO.vm, hcl, hWs, hall, hf⟩⟩
  refine st1 _ ?_
  show Steps p.tables e below (T1.setTop { method := m, pc := pc + 3, locals := ls, stack := .ref T.heap.size :: rest, locked := none }) _
  jvm_step X₁.here [X₁.here.top, hexec, d3', Value.category]
  exact hsteps
/-- 'throw new E("text")': new; dup; ldc; invokespecial; athrow -/
theorem vx_throwS {cc : ByteArray} {pc : Nat} (hexec : p.tables.exec = Jvm.exec) (hb : c.code = cc) (hl : l.stackTraces = false) {own cls text : String} {names : List String} {ik is ic mc ms sa : Nat} {A : Nat → Prop}
    (hown : s.vm.findClass own = some m.cls) (hcls : Bundle.fit cls = true) (hnames : ∀ n ∈ names, Bundle.fit n = true)
    (hk : (Cond.classLink own ik cls).before args s = true) (hini : (Cond.initialized cls).before args s = true) (hstr : vk_R own is text sa s) (hat : ∀ w ∈ vx_atS own ic cls names, w.before args s = true)
    (hgood : ∀ w ∈ Cond.classLink own ik cls :: Cond.initialized cls :: vx_atS own ic cls names, vx_ot w = true)
    (hU : vx_Zq Bundle.tN "UNASSIGNED_STACK" Bundle.steD A s s.heap) (hN : vx_Zq Bundle.tN "SUPPRESSED_SENTINEL" Bundle.listD A s s.heap) (hS : va_S A s.heap H locs) (hsize : ls.size = c.maxLocals)
    (d0 : decode cc pc = .ok (.new ik, 3)) (d3 : decode cc (pc + 3) = .ok (.dup, 1)) (d4 : decode cc (pc + 4) = .ok (.ldc is, 2)) (d6 : decode cc (pc + 6) = .ok (.invokespecial ic, 3)) (d9 : decode cc (pc + 9) = .ok (.athrow, 1))
    (hout : ∀ x ∈ c.exceptionTable.toList, covers x (pc + 9) = false)
    (hRframes : names.length + 3 < R.frames) (hRlocals : (rest.map fun v => v.category).sum + (13 * (names.length + 1) + 43) ≤ R.locals) (hRcells : cells + 1 ≤ R.cells) (hRslots : slots + 6 ≤ R.slots) (hlocks : meth.locks = false)
    (hx : ∀ t : State, s.vm.Alike t.vm → H.size ≤ t.heap.size → (∀ q : Nat, q < H.size → t.heap[q]? = H[q]?) → XC cls s t)
    (hf : ∀ z ∈ locs, free z.base) (hc : cells + 1 ≤ mc) (hs : slots + 6 ≤ ms) :
    W p l e R s m args below meth c H locs cells slots (vx_MQ below Qc XC args s mc ms free) (F0 m pc ls rest) := by
  intro T hT X
  have htr : e.platform.stackTraces = false := (show e.platform.stackTraces = l.stackTraces by rw [X.admits.platform]).trans hl
  have Y := vx_rebase X (R' := { frames := R.frames, locals := R.locals, cells := 1, slots := 6 }) (Nat.le_refl _) (Nat.le_refl _) hRcells hRslots
  obtain ⟨s', hA⟩ : ∃ z, z = (T.setVm s.vm).setFrames (.invoking m args :: below) := ⟨_, rfl⟩
  rw [← hA] at Y
  have hvm : s'.vm = s.vm := by rw [hA]; rfl
  have hhp : s'.heap = H := by rw [hA]; exact hT
  have hW0 : s.WarmedH s'.vm := by rw [hvm]; exact State.WarmedH.refl s
  have hat' : ∀ w ∈ vx_atS own ic cls names, w.before args s' = true := fun w hw => vx_ot_at hW0 hvm.symm (hgood w (List.mem_cons_of_mem _ (List.mem_cons_of_mem _ hw))) (hat w hw)
  have hk' : (Cond.classLink own ik cls).before args s' = true := vx_ot_at hW0 hvm.symm (hgood _ List.mem_cons_self) hk
  have hini' : (Cond.initialized cls).before args s' = true := vx_ot_at hW0 hvm.symm (hgood _ (List.mem_cons_of_mem _ List.mem_cons_self)) hini
  have hU' : vx_Zq Bundle.tN "UNASSIGNED_STACK" Bundle.steD A s' s'.heap := by rw [hhp]; exact vx_Zq.moved hW0.alike (hU.kept hS.2.1)
  have hN' : vx_Zq Bundle.tN "SUPPRESSED_SENTINEL" Bundle.listD A s' s'.heap := by rw [hhp]; exact vx_Zq.moved hW0.alike (hN.kept hS.2.1)
  have h : ∀ w ∈ Bundle.ownAtoms own ic cls names, w.before args s' = true := vx_own hat' (vx_isRefq hU'.1) (vx_isRefq hN'.1) hU'.2.word hN'.2.word
  have hown' : s'.vm.findClass own = some m.cls := by rw [hvm]; exact hown
  have hins : (Cond.instantiable cls 6).before args s' = true := h _ (by simp [Bundle.ownAtoms])
  obtain ⟨vm₁, cX, kX, hfX, hkX, -, -, X₁, st1⟩ := Y.newCold hexec (own := own) (C := cls) (index := ik) (n := 6) hown' hk' hins hini'
    (g := F0 m pc ls rest) rfl (by rw [hb]; exact d0) (Nat.le_refl _) (Nat.le_refl _)
  generalize hT1 : (T.setVm vm₁).pushCell { cls := cX, slots := kX.instanceTypes.map defaultValue, vm := .none } = T1 at X₁ st1
  have hcat : (Value.ref T.heap.size).category = 1 := rfl
  have hcellA : T1.heap[T.heap.size]? = some (freshCell cX kX) := by rw [← hT1]; exact State.heap_pushCell_size _ _
  have d3' : decode c.code (pc + 3) = .ok (.dup, 1) := by rw [hb]; exact d3
  have d4' : decode c.code (pc + 4) = .ok (.ldc is, 2) := by rw [hb]; exact d4
  have hstr' : vk_R own is text sa s' := vk_R.warm hW0 hstr
  obtain ⟨U, hsteps, hrun, hend, hW, hsame, ce, hce, hO⟩ := X₁.ctorThrowS hexec htr (own := own) (cls := cls) (names := names) (ic := ic) hown' hcls hnames h (fun x hx => nomatch hx) hfX hkX hcellA (by rw [hhp, hT]; exact Nat.le_refl _) (msg := .ref sa) rfl
    (g := { method := m, pc := pc + 6, locals := ls, stack := .ref sa :: .ref T.heap.size :: .ref T.heap.size :: rest, locked := none }) rfl hsize rfl rfl (rest := rest) rfl
    (by rw [hb]; exact d6) (by rw [hb]; exact d9) hout hRframes (by simp only [List.map_cons, List.sum_cons, hcat]; omega) hlocks
  obtain ⟨f1, f2⟩ := vx_frame hsame
  rw [hhp] at f1 f2
  have hWs : s.WarmedH U.vm := State.WarmedH.trans hW0 hW
  have hcl : s.vm.findClass cls = some ce.cls := by
    have h9 := hO.cls
    rw [hvm] at h9
    exact h9
  have hall : s.sameButNew ({ U with vm := s.vm } : State) locs mc ms := by
    subst hA
    obtain ⟨e1, e2⟩ := hsame
    rw [State.setFrames_setFrames] at e1
    have h2 : (T.setVm s.vm).sameButNew ({ U with vm := s.vm } : State) [] (0 + 1) (0 + 6) := ⟨e1, e2⟩
    have h3 := X.same.trans h2
    rw [List.append_nil] at h3
    exact h3.mono hc hs
  refine ⟨U, ?_, .threw T.heap.size, hrun, hend, Or.inr ⟨T.heap.size, rfl, cls, ce, locs, hx U hWs.alike f1 (fun q hq => f2 q hq (fun z hz => nomatch hz)), hce, hO.vm, hcl, hWs, hall, hf⟩⟩
  refine st1 _ ?_
  show Steps p.tables e below (T1.setTop { method := m, pc := pc + 3, locals := ls, stack := .ref T.heap.size :: rest, locked := none }) _
  jvm_step X₁.here [X₁.here.top, hexec, d3', Value.category]
  exact X₁.ldcString hexec (own := own) (text := text) (index := is) (a := sa) hown' hstr'.1 hstr'.2
    (g := { method := m, pc := pc + 4, locals := ls, stack := .ref T.heap.size :: .ref T.heap.size :: rest, locked := none }) rfl d4' _ hsteps
/-- 'throw new E("text")', the text by a wide index -/
theorem vx_throwSW {cc : ByteArray} {pc : Nat} (hexec : p.tables.exec = Jvm.exec) (hb : c.code = cc) (hl : l.stackTraces = false) {own cls text : String} {names : List String} {ik is ic mc ms sa : Nat} {A : Nat → Prop}
    (hown : s.vm.findClass own = some m.cls) (hcls : Bundle.fit cls = true) (hnames : ∀ n ∈ names, Bundle.fit n = true)
    (hk : (Cond.classLink own ik cls).before args s = true) (hini : (Cond.initialized cls).before args s = true) (hstr : vk_R own is text sa s) (hat : ∀ w ∈ vx_atS own ic cls names, w.before args s = true)
    (hgood : ∀ w ∈ Cond.classLink own ik cls :: Cond.initialized cls :: vx_atS own ic cls names, vx_ot w = true)
    (hU : vx_Zq Bundle.tN "UNASSIGNED_STACK" Bundle.steD A s s.heap) (hN : vx_Zq Bundle.tN "SUPPRESSED_SENTINEL" Bundle.listD A s s.heap) (hS : va_S A s.heap H locs) (hsize : ls.size = c.maxLocals)
    (d0 : decode cc pc = .ok (.new ik, 3)) (d3 : decode cc (pc + 3) = .ok (.dup, 1)) (d4 : decode cc (pc + 4) = .ok (.ldc_w is, 3)) (d7 : decode cc (pc + 7) = .ok (.invokespecial ic, 3)) (d10 : decode cc (pc + 10) = .ok (.athrow, 1))
    (hout : ∀ x ∈ c.exceptionTable.toList, covers x (pc + 10) = false)
    (hRframes : names.length + 3 < R.frames) (hRlocals : (rest.map fun v => v.category).sum + (13 * (names.length + 1) + 43) ≤ R.locals) (hRcells : cells + 1 ≤ R.cells) (hRslots : slots + 6 ≤ R.slots) (hlocks : meth.locks = false)
    (hx : ∀ t : State, s.vm.Alike t.vm → H.size ≤ t.heap.size → (∀ q : Nat, q < H.size → t.heap[q]? = H[q]?) → XC cls s t)
    (hf : ∀ z ∈ locs, free z.base) (hc : cells + 1 ≤ mc) (hs : slots + 6 ≤ ms) :
    W p l e R s m args below meth c H locs cells slots (vx_MQ below Qc XC args s mc ms free) (F0 m pc ls rest) := by
  intro T hT X
  have htr : e.platform.stackTraces = false := (show e.platform.stackTraces = l.stackTraces by rw [X.admits.platform]).trans hl
  have Y := vx_rebase X (R' := { frames := R.frames, locals := R.locals, cells := 1, slots := 6 }) (Nat.le_refl _) (Nat.le_refl _) hRcells hRslots
  obtain ⟨s', hA⟩ : ∃ z, z = (T.setVm s.vm).setFrames (.invoking m args :: below) := ⟨_, rfl⟩
  rw [← hA] at Y
  have hvm : s'.vm = s.vm := by rw [hA]; rfl
  have hhp : s'.heap = H := by rw [hA]; exact hT
  have hW0 : s.WarmedH s'.vm := by rw [hvm]; exact State.WarmedH.refl s
  have hat' : ∀ w ∈ vx_atS own ic cls names, w.before args s' = true := fun w hw => vx_ot_at hW0 hvm.symm (hgood w (List.mem_cons_of_mem _ (List.mem_cons_of_mem _ hw))) (hat w hw)
  have hk' : (Cond.classLink own ik cls).before args s' = true := vx_ot_at hW0 hvm.symm (hgood _ List.mem_cons_self) hk
  have hini' : (Cond.initialized cls).before args s' = true := vx_ot_at hW0 hvm.symm (hgood _ (List.mem_cons_of_mem _ List.mem_cons_self)) hini
  have hU' : vx_Zq Bundle.tN "UNASSIGNED_STACK" Bundle.steD A s' s'.heap := by rw [hhp]; exact vx_Zq.moved hW0.alike (hU.kept hS.2.1)
  have hN' : vx_Zq Bundle.tN "SUPPRESSED_SENTINEL" Bundle.listD A s' s'.heap := by rw [hhp]; exact vx_Zq.moved hW0.alike (hN.kept hS.2.1)
  have h : ∀ w ∈ Bundle.ownAtoms own ic cls names, w.before args s' = true := vx_own hat' (vx_isRefq hU'.1) (vx_isRefq hN'.1) hU'.2.word hN'.2.word
  have hown' : s'.vm.findClass own = some m.cls := by rw [hvm]; exact hown
  have hins : (Cond.instantiable cls 6).before args s' = true := h _ (by simp [Bundle.ownAtoms])
  obtain ⟨vm₁, cX, kX, hfX, hkX, -, -, X₁, st1⟩ := Y.newCold hexec (own := own) (C := cls) (index := ik) (n := 6) hown' hk' hins hini'
    (g := F0 m pc ls rest) rfl (by rw [hb]; exact d0) (Nat.le_refl _) (Nat.le_refl _)
  generalize hT1 : (T.setVm vm₁).pushCell { cls := cX, slots := kX.instanceTypes.map defaultValue, vm := .none } = T1 at X₁ st1
  have hcat : (Value.ref T.heap.size).category = 1 := rfl
  have hcellA : T1.heap[T.heap.size]? = some (freshCell cX kX) := by rw [← hT1]; exact State.heap_pushCell_size _ _
  have d3' : decode c.code (pc + 3) = .ok (.dup, 1) := by rw [hb]; exact d3
  have d4' : decode c.code (pc + 4) = .ok (.ldc_w is, 3) := by rw [hb]; exact d4
  have hstr' : vk_R own is text sa s' := vk_R.warm hW0 hstr
  obtain ⟨U, hsteps, hrun, hend, hW, hsame, ce, hce, hO⟩ := X₁.ctorThrowS hexec htr (own := own) (cls := cls) (names := names) (ic := ic) hown' hcls hnames h (fun x hx => nomatch hx) hfX hkX hcellA (by rw [hhp, hT]; exact Nat.le_refl _) (msg := .ref sa) rfl
    (g := { method := m, pc := pc + 7, locals := ls, stack := .ref sa :: .ref T.heap.size :: .ref T.heap.size :: rest, locked := none }) rfl hsize rfl rfl (rest := rest) rfl
    (by rw [hb]; exact d7) (by rw [hb]; exact d10) hout hRframes (by simp only [List.map_cons, List.sum_cons, hcat]; omega) hlocks
  obtain ⟨f1, f2⟩ := vx_frame hsame
  rw [hhp] at f1 f2
  have hWs : s.WarmedH U.vm := State.WarmedH.trans hW0 hW
  have hcl : s.vm.findClass cls = some ce.cls := by
    have h9 := hO.cls
    rw [hvm] at h9
    exact h9
  have hall : s.sameButNew ({ U with vm := s.vm } : State) locs mc ms := by
    subst hA
    obtain ⟨e1, e2⟩ := hsame
    rw [State.setFrames_setFrames] at e1
    have h2 : (T.setVm s.vm).sameButNew ({ U with vm := s.vm } : State) [] (0 + 1) (0 + 6) := ⟨e1, e2⟩
    have h3 := X.same.trans h2
    rw [List.append_nil] at h3
    exact h3.mono hc hs
  refine ⟨U, ?_, .threw T.heap.size, hrun, hend, Or.inr ⟨T.heap.size, rfl, cls, ce, locs, hx U hWs.alike f1 (fun q hq => f2 q hq (fun z hz => nomatch hz)), hce, hO.vm, hcl, hWs, hall, hf⟩⟩
  refine st1 _ ?_
  show Steps p.tables e below (T1.setTop { method := m, pc := pc + 3, locals := ls, stack := .ref T.heap.size :: rest, locked := none }) _
  jvm_step X₁.here [X₁.here.top, hexec, d3', Value.category]
  exact X₁.ldcStringW hexec (own := own) (text := text) (index := is) (a := sa) hown' hstr'.1 hstr'.2
    (g := { method := m, pc := pc + 4, locals := ls, stack := .ref T.heap.size :: .ref T.heap.size :: rest, locked := none }) rfl d4' _ hsteps
end Ends
section Bodies
variable {l : Launch}
theorem vx_ofW {y : MethodName} {ws ws' : List Cond} {rm : Room} {Pc : Array Value → State → Prop} {Qc : Array Value → State → Outcome → State → Prop} {XC : String → State → State → Prop} {mc ms : Nat} {free : Addr → Prop} {cc : ByteArray} {maxL : Nat} {ret : Option FieldType}
    (hy : plainName y.cls = true) (hw : ws = Cond.code y cc maxL ret :: ws')
    (body : ∀ p e s m args below meth c s₁, BodyLoose p l y (headSpec ws rm) cc maxL ret e s m args below meth c s₁ → c.maxLocals = maxL → (∀ x ∈ c.exceptionTable.toList, False) → Pc args s →
      W p l e (headSpec ws rm).room s m args below meth c s.heap [] 0 0 (vx_MQ below Qc XC args s mc ms free) (entryFrame m args maxL)) : vx_Met l y ws rm Pc Qc XC mc ms free := by
  refine MetFree.of_bodyS (code := cc) (maxLocals := maxL) (ret := ret) hy ?_ ?_
  · intro args s m h hn
    obtain ⟨meth, c, h1, h2, h3, h4, h5, h6, -, -⟩ := Cond.code_spec hn (atoms_spec (ws := ws) h _ (by rw [hw]; exact List.mem_cons_self))
    exact ⟨meth, c, h1, h2, h3, h4, h5, h6⟩
  · intro p e s m args below meth c s₁ B hml hP _
    have hh0 : s₁.heap = s.heap := by rw [B.state]; rfl
    have ht : ∀ x ∈ c.exceptionTable.toList, False := by
      obtain ⟨meth9, c9, h1, h2, -, -, -, -, h7, -⟩ := Cond.code_spec B.named (atoms_spec (ws := ws) B.pre _ (by rw [hw]; exact List.mem_cons_self))
      cases Option.some.inj (h1.symm.trans B.method)
      cases Option.some.inj (h2.symm.trans (Stand.of_body B).code)
      intro x hx
      rw [Array.isEmpty_iff.mp h7] at hx
      cases hx
    obtain ⟨t, a1, o, b1, b2, b3⟩ := body p e s m args below meth c s₁ B hml ht hP s₁ hh0 (Stand.of_body B)
    exact ⟨t, o, a1, b1, b2, b3⟩
/-- the table of a body with handlers -/
theorem vx_table {p : Program} {x y : MethodName} {S : Spec} {cc bytes : ByteArray} {maxL maxL' : Nat} {ret ret' : Option FieldType} {e : Env} {s s₁ : State} {m : MethodId} {args : Array Value} {below : List Frame} {meth : Method} {c : Code} {hh : List (Nat × Nat × Nat × Nat)}
    (B : BodyLoose p l y S cc maxL ret e s m args below meth c s₁) (h : (Cond.codeWith y bytes maxL' ret' hh).before args s = true) : c.exceptionTable.toList = tableOf hh := by
  obtain ⟨m9, meth9, c9, hn9, h1, h2, -, -, h6, -⟩ := Cond.codeWith_spec h
  cases Option.some.inj (hn9.symm.trans B.named)
  cases Option.some.inj (h1.symm.trans B.method)
  cases Option.some.inj (h2.symm.trans (Stand.of_body B).code)
  rw [← h6, table_eq]
end Bodies
end VXA
/-! ===== END ===== -/
/-! ===== BEGIN a static call of a method with an exception table ===== -/
section VXS
variable {p : Program} {l : Launch} {e : Env} {R : Room} {s : State} {m : MethodId} {args : Array Value} {below : List Frame} {meth : Method} {c : Code} {T : State} {H : Heap} {locs : List Loc} {cells slots : Nat}
abbrev vx_CSW (R : Room) (s : State) (args : Array Value) (own : String) (index : Nat) (y : MethodName) (bytes : ByteArray) (maxL : Nat) (ret : Option FieldType) (hh : List (Nat × Nat × Nat × Nat)) (ws : List Cond) (rm : Room) (mc ms n : Nat) : Prop :=
  (rm.cells = mc ∧ rm.slots = ms ∧ rm.frames + 1 ≤ R.frames ∧ 8 + (maxL + 11) + rm.locals ≤ R.locals ∧ (∀ w ∈ ws, ∀ (a' : Array Value) (U : State), s.WarmedH U.vm → w.before a' U = true) ∧ Cond.codeWith y bytes maxL ret hh ∈ ws) ∧
  (Cond.codeWith y bytes maxL ret hh).before args s = true ∧ (Cond.initialized y.cls).before args s = true ∧ (y.cls ≠ "java/lang/invoke/MethodHandle" ∧ y.cls ≠ "java/lang/invoke/VarHandle") ∧
  (∀ sig, parseMethodDescriptor y.desc = some sig → n = sig.parameters.length) ∧ (Cond.methodLink own index y).before args s = true ∧ (Cond.static y).before args s = true
theorem vx_cwSW {own : String} {index maxL mc ms : Nat} {y : MethodName} {bytes : ByteArray} {ret : Option FieldType} {hh : List (Nat × Nat × Nat × Nat)} {Ts ws ws' : List Cond} {rm : Room} (n : Nat) (ht : ∀ w ∈ Ts, w.before args s = true) (hT : GoodIn Ts (va_wsS own index y ws)) (hw : ws = Cond.codeWith y bytes maxL ret hh :: ws') (hrc : rm.cells = mc) (hrs : rm.slots = ms)
    (hd : y.cls ≠ "java/lang/invoke/MethodHandle" ∧ y.cls ≠ "java/lang/invoke/VarHandle" ∧ (parseMethodDescriptor y.desc).map (fun d => d.parameters.length) = some n) (hR : rm.frames + 1 ≤ R.frames ∧ 8 + (maxL + 11) + rm.locals ≤ R.locals) :
    vx_CSW R s args own index y bytes maxL ret hh ws rm mc ms n := by
  have ok : ∀ w ∈ va_wsS own index y ws, w.before args s = true := fun w h => ht w (hT w h).1
  have hG : GoodIn Ts ws := fun w h => hT w (by unfold va_wsS; exact List.mem_append_right _ h)
  have hc : Cond.codeWith y bytes maxL ret hh ∈ ws := by rw [hw]; exact List.mem_cons_self
  refine ⟨⟨hrc, hrs, hR.1, hR.2, pay_in ht hG, hc⟩, ht _ (hG _ hc).1, ok _ (by simp [va_wsS]), ⟨hd.1, hd.2.1⟩, fun sig h => ?_, ok _ (by simp [va_wsS]), ok _ (by simp [va_wsS])⟩
  have h2 := hd.2.2
  rw [h] at h2
  exact (Option.some.inj h2).symm
theorem vx_callSW (X : Stand p l e R s m args below meth c T locs cells slots) (hexec : p.tables.exec = Jvm.exec) {own : String} {index : Nat} {y : MethodName} {bytes : ByteArray} {maxL : Nat} {ret : Option FieldType} {hh : List (Nat × Nat × Nat × Nat)}
    (hown : s.vm.findClass own = some m.cls) (hlink : (Cond.methodLink own index y).before args s = true) (hstat : (Cond.static y).before args s = true) (hinit : (Cond.initialized y.cls).before args s = true)
    (hcode : (Cond.codeWith y bytes maxL ret hh).before args s = true) (hy : y.cls ≠ "java/lang/invoke/MethodHandle" ∧ y.cls ≠ "java/lang/invoke/VarHandle")
    {W9 : Nat} {Pre : Pt → Array Value → Prop} {Post : Pt → Array Value → Option Value → Pt → Prop} (hK : Back l R p e below s args y 3 W9 Pre Post)
    {g : JFrame} (hg : g.method = m) (hsize : g.locals.size = c.maxLocals) {argsL rest : List Value} (hlen : ∀ sig, parseMethodDescriptor y.desc = some sig → argsL.length = sig.parameters.length)
    (hstack : g.stack = argsL.reverse ++ rest) (hW : 2 * g.monitorRoom + (rest.map fun v => v.category).sum ≤ W9) (hdg : decode c.code g.pc = .ok (.invokestatic index, 3))
    (hpre : ∀ vm₁, s.WarmedH vm₁ → Pre ⟨T.setVm vm₁, locs, cells, slots⟩ argsL.toArray) :
    ∃ (v : Option Value) (vm₁ : Vm) (B : Pt), s.WarmedH vm₁ ∧ Stand p l e R s m args below meth c B.U B.locs B.cells B.slots ∧ Post ⟨T.setVm vm₁, locs, cells, slots⟩ argsL.toArray v B ∧
      ∀ target, Steps p.tables e below (B.U.setTop { g with pc := g.pc + 3, stack := v.toList ++ rest }) target → Steps p.tables e below (T.setTop g) target := by
  obtain ⟨mk, methM, cM, hnamed, hmethM, -, -, -, -, -, -, hsigM⟩ := Cond.codeWith_spec hcode
  have hstatic : methM.isStatic = true := Cond.static_spec hnamed hmethM hstat
  obtain ⟨kP, hkP, -⟩ := className_of_methodNamed hnamed
  have hinitP : kP.init = .initialized := Cond.initialized_spec (findClass_of_methodNamed hnamed) hkP hinit
  obtain ⟨vm₁, X₁, hstep₁⟩ := X.invokestatic hexec hown hlink hnamed hmethM hstatic hkP hinitP hy (g := g) hg (argsL := argsL) (rest := rest) (hlen _ hsigM) hstack hdg
  obtain ⟨v, B, X', hpost, hsteps⟩ := hK m meth c ⟨T.setVm vm₁, locs, cells, slots⟩ { g with stack := rest } (.invokestatic index) mk argsL.toArray X₁ hg hsize hdg hW (X₁.named hnamed) (hpre vm₁ X₁.warmed)
  exact ⟨v, vm₁, B, X₁.warmed, X', hpost, fun target h => hstep₁ _ fun acts => by rw [doInvoke_state]; exact hsteps.trans h⟩
theorem vx_runSW {y : MethodName} {bytes cc : ByteArray} {maxL nL mc ms n index : Nat} {ret : Option FieldType} {hh : List (Nat × Nat × Nat × Nat)} {ws : List Cond} {rm : Room} {Pc : Array Value → State → Prop} {Qc : Array Value → State → Outcome → State → Prop} {free : Addr → Prop} {Ts : List Cond} {own : String} {As rest : List Value} {g : JFrame}
    (S : CallFix p m c cc nL s args Ts own) (hM : Met l y ws rm Pc Qc mc ms free) (cw : vx_CSW R s args own index y bytes maxL ret hh ws rm mc ms n) (hp : PreS s H Pc As)
    (hg : g.method = m) (hn : As.length = n) (hsize : g.locals.size = nL) (hstack : g.stack = As.reverse ++ rest) (hW : 2 * g.monitorRoom + (rest.map fun v => v.category).sum ≤ 8) (hdg : decode cc g.pc = .ok (.invokestatic index, 3)) (hf : cells + mc ≤ R.cells ∧ slots + ms ≤ R.slots) :
    va_Run p l e R s m args below meth c H locs cells slots mc ms g rest (Qc As.toArray) (free) := by
  obtain ⟨⟨hrc, hrs, hfr, hlo, hws, hcw⟩, hcode, hini, hy, hlen, hl, hstt⟩ := cw
  have hK : Back l R p e below s args y 3 8 (PreOf R mc ms Pc) (PostOf Qc mc ms free) := va_backW (hh := hh) (bytes := bytes) (maxL := maxL) (ret := ret) hM hp.1 hrc hrs hfr hlo hws hcw (fun a' U hW => word_at hW (Or.inl (by first | rfl | simp [Cond.onTables, Cond.keeps, Cond.steady])) hini)
  obtain ⟨hx, hb, hml, ho, -⟩ := S
  intro T hT X
  obtain ⟨v, vm₁, ⟨U', l2, c2, s2⟩, hW₁, X', ⟨g', mk, t, L, e1, e2, hq, h1, hL, h2, h3⟩, st⟩ := vx_callSW X hx (hh := hh) (bytes := bytes) (maxL := maxL) (ret := ret) ho hl hstt hini hcode hy hK hg (hsize.trans hml.symm) (argsL := As) (rest := rest) (fun sig h => hn.trans (hlen sig h)) hstack hW (by rw [hb]; exact hdg)
    (fun vm₁ hW₁ => ⟨hf.1, hf.2, hp.2 (T.setVm vm₁) hT hW₁⟩)
  dsimp only [Pt.U, Pt.locs, Pt.cells, Pt.slots] at X' e1 e2 h1 h2 h3 st
  subst h1; subst h2; subst h3
  exact ⟨v, (T.setVm vm₁).calling g' mk As.toArray, t, U', L, hT, X', hL, e1, e2, hq, st⟩
/-- not caught here, past rows that name other classes: it goes on to the caller -/
theorem vx_outP {p : Program} {l : Launch} {e : Env} {R : Room} {s : State} {m : MethodId} {args : Array Value} {below : List Frame} {meth : Method} {c : Code} {H : Heap} {locs : List Loc} {cells slots : Nat} {free : Addr → Prop} {ls : Array Slot} {rest : List Value} {Qc : Array Value → State → Outcome → State → Prop} {XC : String → State → State → Prop}
    {pc : Nat} {own E : String} {ce : Cell} {q : Addr} {mc ms : Nat} (hown : s.vm.findClass own = some m.cls) (hlocks : meth.locks = false)
    (hpass : ∀ z ∈ c.exceptionTable.toList, covers z pc = false ∨ (z.catchType ≠ 0 ∧ ∃ nm : String, (Cond.classLink own z.catchType nm).before args s = true ∧ va_Nc E nm s)) (hcell : H[q]? = some ce) (hv : ce.vm = .none) (hcl : s.vm.findClass E = some ce.cls)
    (hx : ∀ t : State, t.heap = H → s.vm.Alike t.vm → XC E s t) (hf : ∀ z ∈ locs, free z.base) (hc : cells ≤ mc) (hs : slots ≤ ms) :
    vx_W p l e R s m args below meth c H locs cells slots (vx_MQ below Qc XC args s mc ms free) (F0 m pc ls rest) q := by
  intro T hT X
  have hpl : e.platform.magicAccessors = ({} : Platform).magicAccessors := by rw [X.admits.platform]
  obtain ⟨vm', hW', X', st⟩ := X.outThrough hlocks q (g := F0 m pc ls rest) rfl rfl rfl (cell := ce) (by rw [hT]; exact hcell) (by rw [hv]; rfl)
    (by obtain ⟨k9, h9, -⟩ := Vm.findClass_spec hcl; exact ⟨k9, h9⟩) (fun z hz => by
      rcases hpass z hz with h | ⟨hz0, nm, hl1, hn1⟩
      · exact Or.inl h
      · obtain ⟨c6, hc6, hcl6⟩ := Cond.classLink_spec hown hl1 e.platform hpl
        obtain ⟨a8, b8, h1, h2, h3⟩ := hn1
        cases Option.some.inj (h1.symm.trans hcl)
        cases Option.some.inj (h2.symm.trans hc6)
        exact Or.inr ⟨hz0, _, hcl6, h3⟩)
  obtain ⟨g₀, hfr⟩ := X'.frames_eq
  have hcell9 : ((T.setVm vm').setFrames (.throwing q :: below)).heap[q]? = some ce := by
    show T.heap[q]? = some ce
    rw [hT]; exact hcell
  have hend : Ended ((T.setVm vm').setFrames (.throwing q :: below)) below (.threw q) := State.frames_setFrames _ (State.cur_lt_of_frames hfr)
  refine ⟨(T.setVm vm').setFrames (.throwing q :: below), ?_, .threw q, X'.here.running, hend, Or.inr ⟨q, rfl, E, ce, locs, hx _ hT (X'.ends _).1.alike, hcell9, hv, hcl, (X'.ends _).1, (X'.ends _).2.mono hc hs, hf⟩⟩
  rw [X.pushThrowing_eq]
  exact st
/-- a thing of a world lies in the heap -/
theorem vx_lt {D : va_G} {cl : List vw_C} {ws : va_W} {H1 : Heap} (h : va_P D cl ws H1) {k : Nat} {q : Nat × va_E} (hk : ws[k]? = some q) : q.1 < H1.size := (h k q hk).lt
end VXS
/-! ===== END ===== -/
/-! ===== BEGIN methods with a table of their own: called by a name, returning or throwing ===== -/
section VXH
/-! vx_backW, vx_callVX, vx_callSX, vx_callVW, vx_runVW, vx_runVX, vx_runSX, vx_ofWH follow the same proofs as their sisters above (Free/Laws.lean, Shelf42/LK1.lean); vx_outP calls Shelf42/NT130.lean (outThrough). -/
section
variable {l : Launch} {R : Room} {p : Program} {e : Env} {below : List Frame} {s : State} {sargs : Array Value} {y : MethodName} {len W9 : Nat}
theorem vx_backW {ws : List Cond} {rm : Room} {Pc : Array Value → State → Prop} {Qc : Array Value → State → Outcome → State → Prop} {XC : String → State → State → Prop} {mc ms : Nat} {free : Addr → Prop} {bytes : ByteArray} {maxL : Nat} {ret : Option FieldType} {hh : List (Nat × Nat × Nat × Nat)}
    (hM : vx_Met l y ws rm Pc Qc XC mc ms free) (hblind : FrameBlind Pc) (hrc : rm.cells = mc) (hrs : rm.slots = ms)
    (hframes : rm.frames + 1 ≤ R.frames) (hlocals : W9 + (maxL + 11) + rm.locals ≤ R.locals)
    (hws : ∀ w ∈ ws, ∀ a' U, s.WarmedH U.vm → w.before a' U = true) (hcode : Cond.codeWith y bytes maxL ret hh ∈ ws) (hinit : ∀ a' U, s.WarmedH U.vm → (Cond.initialized y.cls).before a' U = true) :
    vx_Back l R p e below s sargs y len W9 (PreOf R mc ms Pc) (PostOf Qc mc ms free) (vx_Post XC mc ms free) := by
  intro m meth c A g ig mk a X hg hsize hdg hW hn hp
  have h1 : (headSpec ws rm).pre.before a A.U = true := atoms_intro fun w hw => hws w hw _ _ X.warmed
  have h2 : (Cond.codeWith y bytes maxL ret hh).before a A.U = true := hws _ hcode _ _ X.warmed
  have h3 : (Cond.initialized y.cls).before a A.U = true := hinit _ _ X.warmed
  have h4 : A.cells + (headSpec ws rm).room.cells ≤ R.cells := by rw [show (headSpec ws rm).room.cells = mc from hrc]; exact hp.1
  have h5 : A.slots + (headSpec ws rm).room.slots ≤ R.slots := by rw [show (headSpec ws rm).room.slots = ms from hrs]; exact hp.2.1
  have hPc : Pc a (A.U.calling g mk a) := hblind _ _ _ _ hp.2.2
  obtain ⟨U, Ls, c0, s0⟩ := A
  dsimp only [Pt.U, Pt.locs, Pt.cells, Pt.slots] at h1 h2 h3 h4 h5 X hn hPc ⊢
  obtain ⟨m9, methY, cY, hn9, hmY, hcY, -, hlY, -⟩ := Cond.codeWith_spec h2
  cases Option.some.inj (hn9.symm.trans hn)
  obtain ⟨kY, hkY, -⟩ := className_of_methodNamed hn
  have hinitY : kY.init = .initialized := Cond.initialized_spec (findClass_of_methodNamed hn) hkY h3
  have h : At U g.method c below := by rw [hg]; exact X.here
  have hlocals9 : W9 + (maxL + 11) + (headSpec ws rm).room.locals ≤ R.locals := hlocals
  have happ : (headSpec ws rm).appliesLoose y e.platform (U.calling g mk a) = true :=
    Spec.appliesLoose_calling (g := g) h hdg hn hkY hinitY
      (X.room_calling (g := g) (R' := (headSpec ws rm).room) hsize hmY hcY hframes (by rw [hlY]; omega) h4 h5) h1
  obtain ⟨mid, hmid⟩ := h.above
  have hfr : (U.setTop g).frames = (.java g :: mid) ++ below := by rw [State.frames_setTop' g h.top, hmid]; rfl
  obtain ⟨o, s₂, hsteps, -, hend, hq⟩ := Steps.callFree hM p X.admits X.cas X.clock (acts := []) hfr happ hPc trivial
  have hq' : vx_Q Qc XC mc ms free a (U.calling g mk a) o s₂ := hq
  rw [State.frames_setTop' g h.top] at hend
  obtain ⟨g₀, hg0⟩ := Option.isSome_iff_exists.mp h.top
  obtain ⟨r, hr⟩ := State.topJava?_eq_some.mp hg0
  have hr' : (({ U with heap := s₂.heap, slotsUsed := s₂.slotsUsed } : State).setVm s₂.vm).frames = .java g₀ :: r := hr
  rcases hq' with ⟨hqc, L, hfe, hL⟩ | ⟨q, rfl, E, ce, L, hx, hce, hcv, hcl, hW₂, hsm, hL⟩
  · obtain ⟨⟨v, rfl⟩, hW₂, e2, q2, q3, q4, q5, q6⟩ := id hfe
    have e3 : s₂ = ({ (U.calling g mk a).setFrames s₂.frames with heap := s₂.heap, slotsUsed := s₂.slotsUsed } : State).setVm s₂.vm := by
      have : s₂ = ({ s₂ with vm := (U.calling g mk a).vm } : State).setVm s₂.vm := rfl
      rw [e2] at this
      exact this
    obtain ⟨c₂, i₂, len₂, hc₂, hd₂, hf₂⟩ := hend
    have hW' : U.WarmedH s₂.vm := hW₂
    have hcc : c₂ = c := by
      have h1 : s₂.code? g.method = U.code? g.method := by
        rw [State.code?_eq, State.code?_eq, hW'.alike.method?]
      exact Option.some.inj (hc₂.symm.trans (h1.trans h.code))
    subst hcc
    have hlen : len₂ = len := by rw [hdg] at hd₂; cases hd₂; rfl
    subst hlen
    have hs₂ : s₂ = (({ U with heap := s₂.heap, slotsUsed := s₂.slotsUsed } : State).setVm s₂.vm).setTop { g with pc := g.pc + len₂, stack := v.toList ++ g.stack } := by
      refine e3.trans ?_
      rw [hf₂, State.calling_eq h.top, State.setFrames_setFrames, State.setTop_of_frames _ hr', hr]
      rfl
    have hsame : U.sameButNew ({ U with heap := s₂.heap, slotsUsed := s₂.slotsUsed } : State) L mc ms := by
      refine ⟨?_, q2, q3, q4, q5, q6⟩
      obtain ⟨t, ht, -⟩ := State.frames_cons hr
      show ({ U with heap := s₂.heap, slotsUsed := s₂.slotsUsed } : State) = { U.setFrames U.frames with heap := s₂.heap, slotsUsed := s₂.slotsUsed }
      rw [State.setFrames_self ht]
    subst hg
    refine Or.inl ⟨v, ⟨(({ U with heap := s₂.heap, slotsUsed := s₂.slotsUsed } : State).setVm s₂.vm), Ls ++ L, c0 + mc, s0 + ms⟩,
      ⟨X.admits, X.cas, X.clock, X.frames, X.room, X.hears, X.method, X.code, (X.here.setHeapUsed s₂.heap s₂.slotsUsed).setVm hW'.alike, X.tail, State.WarmedH.trans X.warmed hW', X.limits, X.bytes, X.same.trans (hsame.setVm s.vm)⟩,
      ⟨g, mk, s₂, L, rfl, rfl, hqc, rfl, hL, rfl, rfl⟩, ?_⟩
    show Steps p.tables e below _ ((({ U with heap := s₂.heap, slotsUsed := s₂.slotsUsed } : State).setVm s₂.vm).setTop { g with pc := g.pc + len₂, stack := v.toList ++ g.stack })
    rw [← hs₂]
    exact hsteps
  · obtain ⟨e2, q2, q3, q4, q5, q6⟩ := id hsm
    have e3 : s₂ = ({ (U.calling g mk a).setFrames s₂.frames with heap := s₂.heap, slotsUsed := s₂.slotsUsed } : State).setVm s₂.vm := by
      have : s₂ = ({ s₂ with vm := (U.calling g mk a).vm } : State).setVm s₂.vm := rfl
      rw [e2] at this
      exact this
    have hf₂ : s₂.frames = .throwing q :: .java g :: U.frames.tail := hend
    have hW' : U.WarmedH s₂.vm := hW₂
    have hs₂ : s₂ = ((({ U with heap := s₂.heap, slotsUsed := s₂.slotsUsed } : State).setVm s₂.vm).setTop g).pushFrame (.throwing q) := by
      refine e3.trans ?_
      rw [hf₂, State.calling_eq h.top, State.setFrames_setFrames, State.pushFrame, State.frames_setTop _ hr', State.setTop_of_frames _ hr', State.setFrames_setFrames, hr]
      rfl
    have hsame : U.sameButNew ({ U with heap := s₂.heap, slotsUsed := s₂.slotsUsed } : State) L mc ms := by
      refine ⟨?_, q2, q3, q4, q5, q6⟩
      obtain ⟨t, ht, -⟩ := State.frames_cons hr
      show ({ U with heap := s₂.heap, slotsUsed := s₂.slotsUsed } : State) = { U.setFrames U.frames with heap := s₂.heap, slotsUsed := s₂.slotsUsed }
      rw [State.setFrames_self ht]
    subst hg
    refine Or.inr ⟨q, ⟨(({ U with heap := s₂.heap, slotsUsed := s₂.slotsUsed } : State).setVm s₂.vm), Ls ++ L, c0 + mc, s0 + ms⟩,
      ⟨X.admits, X.cas, X.clock, X.frames, X.room, X.hears, X.method, X.code, (X.here.setHeapUsed s₂.heap s₂.slotsUsed).setVm hW'.alike, X.tail, State.WarmedH.trans X.warmed hW', X.limits, X.bytes, X.same.trans (hsame.setVm s.vm)⟩,
      ⟨g, mk, s₂, L, E, ce, rfl, rfl, hx, hce, hcv, hcl, rfl, hL, rfl, rfl⟩, ?_⟩
    show Steps p.tables e below _ (((({ U with heap := s₂.heap, slotsUsed := s₂.slotsUsed } : State).setVm s₂.vm).setTop g).pushFrame (.throwing q))
    rw [← hs₂]
    exact hsteps
end
variable {p : Program} {l : Launch} {e : Env} {R : Room} {s : State} {m : MethodId} {args : Array Value} {below : List Frame} {meth : Method} {c : Code} {T : State} {H : Heap} {locs : List Loc} {cells slots : Nat}
theorem vx_callVX (X : Stand p l e R s m args below meth c T locs cells slots) (hexec : p.tables.exec = Jvm.exec) {own C : String} {index : Nat} {y : MethodName} {bytes : ByteArray} {maxL : Nat} {ret : Option FieldType} {hh : List (Nat × Nat × Nat × Nat)}
    (hown : s.vm.findClass own = some m.cls) (hlink : (Cond.methodLink own index y).before args s = true) (hinst : (Cond.instanceMethod y).before args s = true) (hsel : (Cond.selects C y y).before args s = true)
    (hcode : (Cond.codeWith y bytes maxL ret hh).before args s = true) (hy : y.cls ≠ "java/lang/invoke/MethodHandle" ∧ y.cls ≠ "java/lang/invoke/VarHandle")
    {W9 : Nat} {Pre : Pt → Array Value → Prop} {Post : Pt → Array Value → Option Value → Pt → Prop} {PostX : Pt → Array Value → Addr → Pt → Prop} (hK : vx_Back l R p e below s args y 3 W9 Pre Post PostX)
    {b : Addr} {cellB : Cell} (hcell : T.heap[b]? = some cellB) (hobj : cellB.vm.isStatics = false) (hcls : s.vm.findClass C = some cellB.cls)
    {g : JFrame} (hg : g.method = m) (hsize : g.locals.size = c.maxLocals) {argsL rest : List Value} (hlen : ∀ sig, parseMethodDescriptor y.desc = some sig → argsL.length = sig.parameters.length)
    (hstack : g.stack = argsL.reverse ++ .ref b :: rest) (hW : 2 * g.monitorRoom + (rest.map fun v => v.category).sum ≤ W9) (hdg : decode c.code g.pc = .ok (.invokevirtual index, 3))
    (hpre : ∀ vm₁, s.WarmedH vm₁ → Pre ⟨T.setVm vm₁, locs, cells, slots⟩ (Value.ref b :: argsL).toArray) :
    (∃ (v : Option Value) (vm₁ : Vm) (B : Pt), s.WarmedH vm₁ ∧ Stand p l e R s m args below meth c B.U B.locs B.cells B.slots ∧ Post ⟨T.setVm vm₁, locs, cells, slots⟩ (Value.ref b :: argsL).toArray v B ∧
      ∀ target, Steps p.tables e below (B.U.setTop { g with pc := g.pc + 3, stack := v.toList ++ rest }) target → Steps p.tables e below (T.setTop g) target) ∨
    (∃ (q : Addr) (vm₁ : Vm) (B : Pt), s.WarmedH vm₁ ∧ Stand p l e R s m args below meth c B.U B.locs B.cells B.slots ∧ PostX ⟨T.setVm vm₁, locs, cells, slots⟩ (Value.ref b :: argsL).toArray q B ∧
      Steps p.tables e below (T.setTop g) ((B.U.setTop { g with stack := rest }).pushFrame (.throwing q))) := by
  obtain ⟨mk, methM, hnamed, hmethM, hstM, habM⟩ := Cond.instanceMethod_spec hinst
  obtain ⟨m8, methM', cM, hn8, hmethM', -, -, -, -, -, -, hsigM⟩ := Cond.codeWith_spec hcode
  cases Option.some.inj (hn8.symm.trans hnamed)
  cases hmethM.symm.trans hmethM'
  obtain ⟨c2, r2, m2, q1, q2, q3, q4, kP, hkP, hkPi⟩ := Cond.selects_spec hsel
  cases hcls.symm.trans q1
  cases (State.methodFound?_of_named hnamed hy).symm.trans q2
  cases hnamed.symm.trans q3
  have hselP : selectMethod e.platform s.vm cellB.cls mk = .method mk := by rw [Launch.admits_selectMethod X.admits]; exact q4
  obtain ⟨vm₁, X₁, hstep₁⟩ := X.invokevirtual hexec hown hlink hnamed hmethM hstM hkP hkPi hy (a := b) (cell := cellB) hcell
    (fun z h => by rw [h] at hobj; cases hobj) hselP hmethM habM hkP hkPi (g := g) hg (argsL := argsL) (rest := rest) (hlen _ hsigM) hstack hdg
  rcases hK m meth c ⟨T.setVm vm₁, locs, cells, slots⟩ { g with stack := rest } (.invokevirtual index) mk (Value.ref b :: argsL).toArray X₁ hg hsize hdg hW (X₁.named hnamed) (hpre vm₁ X₁.warmed) with ⟨v, B, X', hpost, hsteps⟩ | ⟨q, B, X', hpost, hsteps⟩
  · exact Or.inl ⟨v, vm₁, B, X₁.warmed, X', hpost, fun target h => hstep₁ _ fun acts => by rw [doInvoke_state]; exact hsteps.trans h⟩
  · exact Or.inr ⟨q, vm₁, B, X₁.warmed, X', hpost, hstep₁ _ fun acts => by rw [doInvoke_state]; exact hsteps⟩
theorem vx_callSX (X : Stand p l e R s m args below meth c T locs cells slots) (hexec : p.tables.exec = Jvm.exec) {own : String} {index : Nat} {y : MethodName} {bytes : ByteArray} {maxL : Nat} {ret : Option FieldType} {hh : List (Nat × Nat × Nat × Nat)}
    (hown : s.vm.findClass own = some m.cls) (hlink : (Cond.methodLink own index y).before args s = true) (hstat : (Cond.static y).before args s = true) (hinit : (Cond.initialized y.cls).before args s = true)
    (hcode : (Cond.codeWith y bytes maxL ret hh).before args s = true) (hy : y.cls ≠ "java/lang/invoke/MethodHandle" ∧ y.cls ≠ "java/lang/invoke/VarHandle")
    {W9 : Nat} {Pre : Pt → Array Value → Prop} {Post : Pt → Array Value → Option Value → Pt → Prop} {PostX : Pt → Array Value → Addr → Pt → Prop} (hK : vx_Back l R p e below s args y 3 W9 Pre Post PostX)
    {g : JFrame} (hg : g.method = m) (hsize : g.locals.size = c.maxLocals) {argsL rest : List Value} (hlen : ∀ sig, parseMethodDescriptor y.desc = some sig → argsL.length = sig.parameters.length)
    (hstack : g.stack = argsL.reverse ++ rest) (hW : 2 * g.monitorRoom + (rest.map fun v => v.category).sum ≤ W9) (hdg : decode c.code g.pc = .ok (.invokestatic index, 3))
    (hpre : ∀ vm₁, s.WarmedH vm₁ → Pre ⟨T.setVm vm₁, locs, cells, slots⟩ argsL.toArray) :
    (∃ (v : Option Value) (vm₁ : Vm) (B : Pt), s.WarmedH vm₁ ∧ Stand p l e R s m args below meth c B.U B.locs B.cells B.slots ∧ Post ⟨T.setVm vm₁, locs, cells, slots⟩ argsL.toArray v B ∧
      ∀ target, Steps p.tables e below (B.U.setTop { g with pc := g.pc + 3, stack := v.toList ++ rest }) target → Steps p.tables e below (T.setTop g) target) ∨
    (∃ (q : Addr) (vm₁ : Vm) (B : Pt), s.WarmedH vm₁ ∧ Stand p l e R s m args below meth c B.U B.locs B.cells B.slots ∧ PostX ⟨T.setVm vm₁, locs, cells, slots⟩ argsL.toArray q B ∧
      Steps p.tables e below (T.setTop g) ((B.U.setTop { g with stack := rest }).pushFrame (.throwing q))) := by
  obtain ⟨mk, methM, cM, hnamed, hmethM, -, -, -, -, -, -, hsigM⟩ := Cond.codeWith_spec hcode
  have hstatic : methM.isStatic = true := Cond.static_spec hnamed hmethM hstat
  obtain ⟨kP, hkP, -⟩ := className_of_methodNamed hnamed
  have hinitP : kP.init = .initialized := Cond.initialized_spec (findClass_of_methodNamed hnamed) hkP hinit
  obtain ⟨vm₁, X₁, hstep₁⟩ := X.invokestatic hexec hown hlink hnamed hmethM hstatic hkP hinitP hy (g := g) hg (argsL := argsL) (rest := rest) (hlen _ hsigM) hstack hdg
  rcases hK m meth c ⟨T.setVm vm₁, locs, cells, slots⟩ { g with stack := rest } (.invokestatic index) mk argsL.toArray X₁ hg hsize hdg hW (X₁.named hnamed) (hpre vm₁ X₁.warmed) with ⟨v, B, X', hpost, hsteps⟩ | ⟨q, B, X', hpost, hsteps⟩
  · exact Or.inl ⟨v, vm₁, B, X₁.warmed, X', hpost, fun target h => hstep₁ _ fun acts => by rw [doInvoke_state]; exact hsteps.trans h⟩
  · exact Or.inr ⟨q, vm₁, B, X₁.warmed, X', hpost, hstep₁ _ fun acts => by rw [doInvoke_state]; exact hsteps⟩
theorem vx_callVW (X : Stand p l e R s m args below meth c T locs cells slots) (hexec : p.tables.exec = Jvm.exec) {own C : String} {index : Nat} {y : MethodName} {bytes : ByteArray} {maxL : Nat} {ret : Option FieldType} {hh : List (Nat × Nat × Nat × Nat)}
    (hown : s.vm.findClass own = some m.cls) (hlink : (Cond.methodLink own index y).before args s = true) (hinst : (Cond.instanceMethod y).before args s = true) (hsel : (Cond.selects C y y).before args s = true)
    (hcode : (Cond.codeWith y bytes maxL ret hh).before args s = true) (hy : y.cls ≠ "java/lang/invoke/MethodHandle" ∧ y.cls ≠ "java/lang/invoke/VarHandle")
    {W9 : Nat} {Pre : Pt → Array Value → Prop} {Post : Pt → Array Value → Option Value → Pt → Prop} (hK : Back l R p e below s args y 3 W9 Pre Post)
    {b : Addr} {cellB : Cell} (hcell : T.heap[b]? = some cellB) (hobj : cellB.vm.isStatics = false) (hcls : s.vm.findClass C = some cellB.cls)
    {g : JFrame} (hg : g.method = m) (hsize : g.locals.size = c.maxLocals) {argsL rest : List Value} (hlen : ∀ sig, parseMethodDescriptor y.desc = some sig → argsL.length = sig.parameters.length)
    (hstack : g.stack = argsL.reverse ++ .ref b :: rest) (hW : 2 * g.monitorRoom + (rest.map fun v => v.category).sum ≤ W9) (hdg : decode c.code g.pc = .ok (.invokevirtual index, 3))
    (hpre : ∀ vm₁, s.WarmedH vm₁ → Pre ⟨T.setVm vm₁, locs, cells, slots⟩ (Value.ref b :: argsL).toArray) :
    ∃ (v : Option Value) (vm₁ : Vm) (B : Pt), s.WarmedH vm₁ ∧ Stand p l e R s m args below meth c B.U B.locs B.cells B.slots ∧ Post ⟨T.setVm vm₁, locs, cells, slots⟩ (Value.ref b :: argsL).toArray v B ∧
      ∀ target, Steps p.tables e below (B.U.setTop { g with pc := g.pc + 3, stack := v.toList ++ rest }) target → Steps p.tables e below (T.setTop g) target := by
  obtain ⟨mk, methM, hnamed, hmethM, hstM, habM⟩ := Cond.instanceMethod_spec hinst
  obtain ⟨m8, methM', cM, hn8, hmethM', -, -, -, -, -, -, hsigM⟩ := Cond.codeWith_spec hcode
  cases Option.some.inj (hn8.symm.trans hnamed)
  cases hmethM.symm.trans hmethM'
  obtain ⟨c2, r2, m2, q1, q2, q3, q4, kP, hkP, hkPi⟩ := Cond.selects_spec hsel
  cases hcls.symm.trans q1
  cases (State.methodFound?_of_named hnamed hy).symm.trans q2
  cases hnamed.symm.trans q3
  have hselP : selectMethod e.platform s.vm cellB.cls mk = .method mk := by rw [Launch.admits_selectMethod X.admits]; exact q4
  obtain ⟨vm₁, X₁, hstep₁⟩ := X.invokevirtual hexec hown hlink hnamed hmethM hstM hkP hkPi hy (a := b) (cell := cellB) hcell
    (fun z h => by rw [h] at hobj; cases hobj) hselP hmethM habM hkP hkPi (g := g) hg (argsL := argsL) (rest := rest) (hlen _ hsigM) hstack hdg
  obtain ⟨v, B, X', hpost, hsteps⟩ := hK m meth c ⟨T.setVm vm₁, locs, cells, slots⟩ { g with stack := rest } (.invokevirtual index) mk (Value.ref b :: argsL).toArray X₁ hg hsize hdg hW (X₁.named hnamed) (hpre vm₁ X₁.warmed)
  exact ⟨v, vm₁, B, X₁.warmed, X', hpost, fun target h => hstep₁ _ fun acts => by rw [doInvoke_state]; exact hsteps.trans h⟩
abbrev vx_CVW (R : Room) (s : State) (args : Array Value) (own C : String) (index : Nat) (y : MethodName) (bytes : ByteArray) (maxL : Nat) (ret : Option FieldType) (hh : List (Nat × Nat × Nat × Nat)) (ws : List Cond) (rm : Room) (mc ms n : Nat) : Prop :=
  (rm.cells = mc ∧ rm.slots = ms ∧ rm.frames + 1 ≤ R.frames ∧ 8 + (maxL + 11) + rm.locals ≤ R.locals ∧ (∀ w ∈ ws, ∀ (a' : Array Value) (U : State), s.WarmedH U.vm → w.before a' U = true) ∧ Cond.codeWith y bytes maxL ret hh ∈ ws) ∧
  (Cond.codeWith y bytes maxL ret hh).before args s = true ∧ (Cond.initialized y.cls).before args s = true ∧ (y.cls ≠ "java/lang/invoke/MethodHandle" ∧ y.cls ≠ "java/lang/invoke/VarHandle") ∧
  (∀ sig, parseMethodDescriptor y.desc = some sig → n = sig.parameters.length) ∧ (Cond.methodLink own index y).before args s = true ∧ (Cond.instanceMethod y).before args s = true ∧ (Cond.selects C y y).before args s = true
theorem vx_cwVW {own C : String} {index maxL mc ms : Nat} {y : MethodName} {bytes : ByteArray} {ret : Option FieldType} {hh : List (Nat × Nat × Nat × Nat)} {Ts ws ws' : List Cond} {rm : Room} (n : Nat) (ht : ∀ w ∈ Ts, w.before args s = true) (hT : GoodIn Ts (wsV own index C y ws)) (hw : ws = Cond.codeWith y bytes maxL ret hh :: ws') (hrc : rm.cells = mc) (hrs : rm.slots = ms)
    (hd : y.cls = C ∧ y.cls ≠ "java/lang/invoke/MethodHandle" ∧ y.cls ≠ "java/lang/invoke/VarHandle" ∧ (parseMethodDescriptor y.desc).map (fun d => d.parameters.length) = some n) (hR : rm.frames + 1 ≤ R.frames ∧ 8 + (maxL + 11) + rm.locals ≤ R.locals) :
    vx_CVW R s args own C index y bytes maxL ret hh ws rm mc ms n := by
  obtain ⟨hC, hd⟩ := hd
  subst hC
  have ok : ∀ w ∈ wsV own index y.cls y ws, w.before args s = true := fun w h => ht w (hT w h).1
  have hG : GoodIn Ts ws := fun w h => hT w (by unfold wsV; exact List.mem_append_right _ h)
  have hc : Cond.codeWith y bytes maxL ret hh ∈ ws := by rw [hw]; exact List.mem_cons_self
  refine ⟨⟨hrc, hrs, hR.1, hR.2, pay_in ht hG, hc⟩, ht _ (hG _ hc).1, ok _ (by simp [wsV]), ⟨hd.1, hd.2.1⟩, fun sig h => ?_, ok _ (by simp [wsV]), ok _ (by simp [wsV]), ok _ (by simp [wsV])⟩
  have h2 := hd.2.2
  rw [h] at h2
  exact (Option.some.inj h2).symm
theorem vx_runVW {y : MethodName} {bytes cc : ByteArray} {maxL nL mc ms n index : Nat} {ret : Option FieldType} {hh : List (Nat × Nat × Nat × Nat)} {ws : List Cond} {rm : Room} {Pc : Array Value → State → Prop} {Qc : Array Value → State → Outcome → State → Prop} {free : Addr → Prop} {Ts : List Cond} {own C : String} {b : Addr} {As rest : List Value} {g : JFrame}
    (S : CallFix p m c cc nL s args Ts own) (hM : Met l y ws rm Pc Qc mc ms free) (cw : vx_CVW R s args own C index y bytes maxL ret hh ws rm mc ms n) (hp : PreV s H C b Pc As)
    (hg : g.method = m) (hn : As.length = n) (hsize : g.locals.size = nL) (hstack : g.stack = As.reverse ++ .ref b :: rest) (hW : 2 * g.monitorRoom + (rest.map fun v => v.category).sum ≤ 8) (hdg : decode cc g.pc = .ok (.invokevirtual index, 3)) (hf : cells + mc ≤ R.cells ∧ slots + ms ≤ R.slots) :
    va_Run p l e R s m args below meth c H locs cells slots mc ms g rest (Qc (Value.ref b :: As).toArray) free := by
  obtain ⟨⟨hrc, hrs, hfr, hlo, hws, hcw⟩, hcode, hini, hy, hlen, hl, hin, hse⟩ := cw
  have hK : Back l R p e below s args y 3 8 (PreOf R mc ms Pc) (PostOf Qc mc ms free) := va_backW (hh := hh) (bytes := bytes) (maxL := maxL) (ret := ret) hM hp.1 hrc hrs hfr hlo hws hcw (fun a' U hW => word_at hW (Or.inl (by first | rfl | simp [Cond.onTables, Cond.keeps, Cond.steady])) hini)
  obtain ⟨hx, hb, hml, ho, -⟩ := S
  obtain ⟨-, ⟨cellB, hcB, hoB, hclB⟩, hPc⟩ := hp
  intro T hT X
  obtain ⟨v, vm₁, ⟨U', l2, c2, s2⟩, hW₁, X', ⟨g', mk, t, L, e1, e2, hq, h1, hL, h2, h3⟩, st⟩ := vx_callVW X hx (C := C) (hh := hh) (bytes := bytes) (maxL := maxL) (ret := ret) ho hl hin hse hcode hy hK (by rw [hT]; exact hcB) hoB hclB hg (hsize.trans hml.symm) (argsL := As) (rest := rest) (fun sig h => hn.trans (hlen sig h)) hstack hW (by rw [hb]; exact hdg)
    (fun vm₁ hW₁ => ⟨hf.1, hf.2, hPc (T.setVm vm₁) hT hW₁⟩)
  dsimp only [Pt.U, Pt.locs, Pt.cells, Pt.slots] at X' e1 e2 h1 h2 h3 st
  subst h1; subst h2; subst h3
  exact ⟨v, (T.setVm vm₁).calling g' mk (Value.ref b :: As).toArray, t, U', L, hT, X', hL, e1, e2, hq, st⟩
section
variable {y : MethodName} {bytes cc : ByteArray} {maxL nL mc ms n index : Nat} {ret : Option FieldType} {ws : List Cond} {rm : Room} {Pc : Array Value → State → Prop} {Qc : Array Value → State → Outcome → State → Prop} {XC : String → State → State → Prop} {free : Addr → Prop} {Ts : List Cond} {own C : String} {b : Addr} {As rest : List Value} {g : JFrame}
theorem vx_runVX {hh : List (Nat × Nat × Nat × Nat)} (S : CallFix p m c cc nL s args Ts own) (hM : vx_Met l y ws rm Pc Qc XC mc ms free) (cw : vx_CVW R s args own C index y bytes maxL ret hh ws rm mc ms n) (hp : PreV s H C b Pc As)
    (hg : g.method = m) (hn : As.length = n) (hsize : g.locals.size = nL) (hstack : g.stack = As.reverse ++ .ref b :: rest) (hW : 2 * g.monitorRoom + (rest.map fun v => v.category).sum ≤ 8) (hdg : decode cc g.pc = .ok (.invokevirtual index, 3)) (hf : cells + mc ≤ R.cells ∧ slots + ms ≤ R.slots) :
    vx_Run p l e R s m args below meth c H locs cells slots mc ms g rest (Qc (Value.ref b :: As).toArray) XC free := by
  obtain ⟨⟨hrc, hrs, hfr, hlo, hws, hcw⟩, hcode, hini, hy, hlen, hl, hin, hse⟩ := cw
  have hK : vx_Back l R p e below s args y 3 8 (PreOf R mc ms Pc) (PostOf Qc mc ms free) (vx_Post XC mc ms free) := vx_backW (hh := hh) (bytes := bytes) (maxL := maxL) (ret := ret) hM hp.1 hrc hrs hfr hlo hws hcw (fun a' U hW => word_at hW (Or.inl (by first | rfl | simp [Cond.onTables, Cond.keeps, Cond.steady])) hini)
  obtain ⟨hx, hb, hml, ho, -⟩ := S
  obtain ⟨-, ⟨cellB, hcB, hoB, hclB⟩, hPc⟩ := hp
  intro T hT X
  rcases vx_callVX X hx (C := C) (hh := hh) (bytes := bytes) (maxL := maxL) (ret := ret) ho hl hin hse hcode hy hK (by rw [hT]; exact hcB) hoB hclB hg (hsize.trans hml.symm) (argsL := As) (rest := rest) (fun sig h => hn.trans (hlen sig h)) hstack hW (by rw [hb]; exact hdg)
    (fun vm₁ hW₁ => ⟨hf.1, hf.2, hPc (T.setVm vm₁) hT hW₁⟩) with ⟨v, vm₁, ⟨U', l2, c2, s2⟩, hW₁, X', ⟨g', mk, t, L, e1, e2, hq, h1, hL, h2, h3⟩, st⟩ | ⟨q, vm₁, ⟨U', l2, c2, s2⟩, hW₁, X', ⟨g', mk, t, L, E, ce, e1, e2, hq, hce, hcv, hcl, h1, hL, h2, h3⟩, st⟩
  · dsimp only [Pt.U, Pt.locs, Pt.cells, Pt.slots] at X' e1 e2 h1 h2 h3 st
    subst h1; subst h2; subst h3
    exact Or.inl ⟨v, (T.setVm vm₁).calling g' mk (Value.ref b :: As).toArray, t, U', L, hT, X', hL, e1, e2, hq, st⟩
  · dsimp only [Pt.U, Pt.locs, Pt.cells, Pt.slots] at X' e1 e2 h1 h2 h3 st hcl
    subst h1; subst h2; subst h3
    exact Or.inr ⟨q, (T.setVm vm₁).calling g' mk (Value.ref b :: As).toArray, t, U', L, E, ce, hT, X', hL, e1, e2, hq, hce, hcv, vx_cls hW₁ hcl, st⟩
theorem vx_runSX {hh : List (Nat × Nat × Nat × Nat)} (S : CallFix p m c cc nL s args Ts own) (hM : vx_Met l y ws rm Pc Qc XC mc ms free) (cw : vx_CSW R s args own index y bytes maxL ret hh ws rm mc ms n) (hp : PreS s H Pc As)
    (hg : g.method = m) (hn : As.length = n) (hsize : g.locals.size = nL) (hstack : g.stack = As.reverse ++ rest) (hW : 2 * g.monitorRoom + (rest.map fun v => v.category).sum ≤ 8) (hdg : decode cc g.pc = .ok (.invokestatic index, 3)) (hf : cells + mc ≤ R.cells ∧ slots + ms ≤ R.slots) :
    vx_Run p l e R s m args below meth c H locs cells slots mc ms g rest (Qc As.toArray) XC free := by
  obtain ⟨⟨hrc, hrs, hfr, hlo, hws, hcw⟩, hcode, hini, hy, hlen, hl, hstt⟩ := cw
  have hK : vx_Back l R p e below s args y 3 8 (PreOf R mc ms Pc) (PostOf Qc mc ms free) (vx_Post XC mc ms free) := vx_backW (hh := hh) (bytes := bytes) (maxL := maxL) (ret := ret) hM hp.1 hrc hrs hfr hlo hws hcw (fun a' U hW => word_at hW (Or.inl (by first | rfl | simp [Cond.onTables, Cond.keeps, Cond.steady])) hini)
  obtain ⟨hx, hb, hml, ho, -⟩ := S
  intro T hT X
  rcases vx_callSX X hx (hh := hh) (bytes := bytes) (maxL := maxL) (ret := ret) ho hl hstt hini hcode hy hK hg (hsize.trans hml.symm) (argsL := As) (rest := rest) (fun sig h => hn.trans (hlen sig h)) hstack hW (by rw [hb]; exact hdg)
    (fun vm₁ hW₁ => ⟨hf.1, hf.2, hp.2 (T.setVm vm₁) hT hW₁⟩) with ⟨v, vm₁, ⟨U', l2, c2, s2⟩, hW₁, X', ⟨g', mk, t, L, e1, e2, hq, h1, hL, h2, h3⟩, st⟩ | ⟨q, vm₁, ⟨U', l2, c2, s2⟩, hW₁, X', ⟨g', mk, t, L, E, ce, e1, e2, hq, hce, hcv, hcl, h1, hL, h2, h3⟩, st⟩
  · dsimp only [Pt.U, Pt.locs, Pt.cells, Pt.slots] at X' e1 e2 h1 h2 h3 st
    subst h1; subst h2; subst h3
    exact Or.inl ⟨v, (T.setVm vm₁).calling g' mk As.toArray, t, U', L, hT, X', hL, e1, e2, hq, st⟩
  · dsimp only [Pt.U, Pt.locs, Pt.cells, Pt.slots] at X' e1 e2 h1 h2 h3 st hcl
    subst h1; subst h2; subst h3
    exact Or.inr ⟨q, (T.setVm vm₁).calling g' mk As.toArray, t, U', L, E, ce, hT, X', hL, e1, e2, hq, hce, hcv, vx_cls hW₁ hcl, st⟩
end
end VXH
theorem vx_ofWH {l : Launch} {y : MethodName} {ws ws' : List Cond} {rm : Room} {Pc : Array Value → State → Prop} {Qc : Array Value → State → Outcome → State → Prop} {XC : String → State → State → Prop} {mc ms : Nat} {free : Addr → Prop} {cc : ByteArray} {maxL : Nat} {ret : Option FieldType} {hh : List (Nat × Nat × Nat × Nat)}
    (hy : plainName y.cls = true) (hw : ws = Cond.codeWith y cc maxL ret hh :: ws')
    (body : ∀ p e s m args below meth c s₁, BodyLoose p l y (headSpec ws rm) cc maxL ret e s m args below meth c s₁ → c.maxLocals = maxL → Pc args s →
      W p l e (headSpec ws rm).room s m args below meth c s.heap [] 0 0 (vx_MQ below Qc XC args s mc ms free) (entryFrame m args maxL)) : vx_Met l y ws rm Pc Qc XC mc ms free := by
  refine MetFree.of_bodyS (code := cc) (maxLocals := maxL) (ret := ret) hy ?_ ?_
  · intro args s m h hn
    obtain ⟨m9, meth, c, hn9, h1, h2, h3, h4, -, h5, h6, -⟩ := Cond.codeWith_spec (atoms_spec (ws := ws) h _ (by rw [hw]; exact List.mem_cons_self))
    cases hn.symm.trans hn9
    exact ⟨meth, c, h1, h2, h3, h4, h5, h6⟩
  · intro p e s m args below meth c s₁ B hml hP _
    have hh0 : s₁.heap = s.heap := by rw [B.state]; rfl
    obtain ⟨t, a1, o, b1, b2, b3⟩ := body p e s m args below meth c s₁ B hml hP s₁ hh0 (Stand.of_body B)
    exact ⟨t, o, a1, b1, b2, b3⟩
/-! ===== END ===== -/
end
section
/-! ===== a throw of a class whose own constructor passes its text on by another place of its pool (ix) and code (rx) than the plain ones: after the library's ctorThrowS and the kit's vx_throwS, with the first link of the chain left open ===== -/
section PGX
def pg_chX (X : String) (ix : Nat) (rx : ByteArray) (Y1 : String) (names : List String) : List Cond := Bundle.passSAtoms X Y1 ix rx ++ Bundle.chainSAtoms Y1 names
def pg_oaX (own : String) (ic : Nat) (X : String) (ix : Nat) (rx : ByteArray) (Y1 : String) (names : List String) : List Cond :=
  Bundle.throwableAtoms ++ Bundle.throwableSAtoms ++ pg_chX X ix rx Y1 names ++
  [.methodLink own ic (Bundle.initS X), .instantiable X 6, .castable X X, .selects X Bundle.tFill0 Bundle.tFill0, .selects X Bundle.tFill Bundle.tFill,
   .lays X Bundle.tN "cause" "Ljava/lang/Throwable;", .lays X Bundle.tN "stackTrace" Bundle.steD, .lays X Bundle.tN "suppressedExceptions" Bundle.listD, .lays X Bundle.tN "detailMessage" "Ljava/lang/String;",
   .isRef (.static Bundle.tN "UNASSIGNED_STACK" Bundle.steD), .isRef (.static Bundle.tN "SUPPRESSED_SENTINEL" Bundle.listD),
   .fieldLink Bundle.tN 198 Bundle.tN "backtrace" "Ljava/lang/Object;", .lays Bundle.tN Bundle.tN "backtrace" "Ljava/lang/Object;", .lays X Bundle.tN "backtrace" "Ljava/lang/Object;"]
def pg_atX (own : String) (ic : Nat) (X : String) (ix : Nat) (rx : ByteArray) (Y1 : String) (names : List String) : List Cond := (pg_oaX own ic X ix rx Y1 names).filter vx_no
theorem pg_chainX {args : Array Value} {s : State} {pl : Platform} (hpl : pl.magicAccessors = ({} : Platform).magicAccessors) {top : MethodId} (htop : s.methodNamed? (Bundle.initS Bundle.tN) = some top) {ix : Nat} {rx : ByteArray}
    (x0 : decode rx 0 = .ok (.aload_n 0, 1)) (x1 : decode rx 1 = .ok (.aload_n 1, 1)) (x2 : decode rx 2 = .ok (.invokespecial ix, 3)) (x5 : decode rx 5 = .ok (.return_, 1)) (names : List String) (X Y1 : String) (hX : Bundle.fit X = true) (hY : Bundle.fit Y1 = true) (hn : ∀ n ∈ names, Bundle.fit n = true)
    (h : ∀ c ∈ pg_chX X ix rx Y1 names, c.before args s = true) :
    ∃ (P1 : PassC) (Ps : List PassC), Ps.length = names.length + 1 ∧ P1.LinksS pl s ∧ (∀ P, P ∈ Ps → P.LinksS pl s) ∧ s.methodNamed? (Bundle.initS X) = some P1.m ∧ P1.sup = firstOf top (Ps.map (·.toPassT)) ∧ PassesOn top (Ps.map (·.toPassT)) := by
  obtain ⟨P, L, hm, hs⟩ := PassC.ofS_atoms (args := args) (s := s) hpl (X := X) (Y := Y1) (Bundle.fit_spec hX).1 (Bundle.fit_spec hY).2 x0 x1 x2 x5 (fun c hc => h c (List.mem_append_left _ hc))
  obtain ⟨P', Ps, hlen, L', hL, hm', hsup, hpass⟩ := Bundle.chainS (args := args) (s := s) hpl htop names Y1 hY hn (fun c hc => h c (List.mem_append_right _ hc))
  refine ⟨P, P' :: Ps, by simp [hlen], L, ?_, hm, Option.some.inj (hs.symm.trans hm'), hsup, hpass⟩
  intro Q hQ
  rcases List.mem_cons.mp hQ with rfl | hQ
  · exact L'
  · exact hL Q hQ
variable {p : Program} {l : Launch} {e : Env} {R : Room} {s : State} {m₀ : MethodId} {args : Array Value} {below : List Frame} {meth : Method} {c : Code} {W : State} {locs : List Loc} {cells slots : Nat}
set_option maxHeartbeats 1000000 in
theorem pg_ctorThrowX (X : Stand p l e R s m₀ args below meth c W locs cells slots) (hexec : p.tables.exec = Jvm.exec) (htr : e.platform.stackTraces = false) {own cls Y1 : String} {names : List String} {ic ix : Nat} {rx : ByteArray} (x0 : decode rx 0 = .ok (.aload_n 0, 1)) (x1 : decode rx 1 = .ok (.aload_n 1, 1)) (x2 : decode rx 2 = .ok (.invokespecial ix, 3)) (x5 : decode rx 5 = .ok (.return_, 1)) (hY1 : Bundle.fit Y1 = true)
    (hown : s.vm.findClass own = some m₀.cls) (hcls : Bundle.fit cls = true) (hnames : ∀ n ∈ names, Bundle.fit n = true)
    (h : ∀ a ∈ pg_oaX own ic cls ix rx Y1 names, a.before args s = true)
    (hlocs : ∀ x ∈ locs, ∀ cell, s.heap[x.base]? = some cell → cell.vm.isStatics = false)
    {a : Addr} {cX : ClassId} {kX : Class} (hfoundX : s.vm.findClass cls = some cX) (hkX : s.vm.classes[cX]? = some kX) (hcell : W.heap[a]? = some (freshCell cX kX)) (hnew : s.heap.size ≤ a)
    {msg : Value} (hmsg : msg.isRef = true)
    {g : JFrame} (hg : g.method = m₀) (hsize : g.locals.size = c.maxLocals) (hlocked : g.locked = none) (hentered : g.entered = []) {rest : List Value} (hstack : g.stack = msg :: .ref a :: .ref a :: rest)
    (hd6 : decode c.code g.pc = .ok (.invokespecial ic, 3)) (hd9 : decode c.code (g.pc + 3) = .ok (.athrow, 1)) (hout : ∀ x ∈ c.exceptionTable.toList, covers x (g.pc + 3) = false)
    (hRframes : names.length + 4 < R.frames) (hRlocals : 2 * g.monitorRoom + ((Value.ref a :: rest).map fun v => v.category).sum + (13 * (names.length + 2) + 42) ≤ R.locals) (hlocks : meth.locks = false) :
    ∃ U : State, Steps p.tables e below (W.setTop g) U ∧ U.status = .running ∧ Ended U below (.threw a) ∧ s.WarmedH U.vm ∧ s.sameButNew ({ U with vm := s.vm } : State) locs cells slots ∧
      ∃ ce, U.heap[a]? = some ce ∧ ce.vm = .none ∧ s.vm.findClass cls = some ce.cls := by
  have howns : e.platform.frameOwnsMonitors = true := by rw [X.admits.platform]
  have hfin : e.platform.finalization = false := by rw [X.admits.platform]
  have hpl : e.platform.magicAccessors = ({} : Platform).magicAccessors := by rw [X.admits.platform]
  have a' : ∀ x, x ∈ pg_oaX own ic cls ix rx Y1 names → x.holds args s none s [] = true := fun x hx => h x hx
  obtain ⟨T, Z0, L, -, Y⟩ := ThrowableC.of_atoms (args := args) howns hfin hpl (fun x hx => h x (by simp [pg_oaX, hx]))
  obtain ⟨Z, M, LZ, LM, hnZ⟩ := Init0T.ofS_atoms (args := args) hpl L Y (fun x hx => h x (by simp [pg_oaX, hx]))
  obtain ⟨P1, Ps, hlen, L1, hL, hP1m, hlink1, hlink⟩ := pg_chainX (args := args) hpl hnZ x0 x1 x2 x5 names cls Y1 hcls hY1 hnames (fun x hx => h x (by simp only [pg_oaX, List.mem_append]; exact Or.inl (Or.inr hx)))
  have hfound : s.vm.findClass cls = some P1.m.cls := findClass_of_methodNamed hP1m
  cases Option.some.inj (hfoundX.symm.trans hfound)
  obtain ⟨c1, kX', hc1, hk, hord, -, -, hn6⟩ := Cond.instantiable_spec (a' (.instantiable cls 6) (by simp [pg_oaX]))
  cases Option.some.inj (hc1.symm.trans hfound)
  cases Option.some.inj (hkX.symm.trans hk)
  have hsel0 : selectMethod e.platform s.vm P1.m.cls T.fill0 = .method T.fill0 := by
    obtain ⟨c2, r2, m2, q1, q2, q3, q4, -⟩ := Cond.selects_spec (a' (.selects cls Bundle.tFill0 Bundle.tFill0) (by simp [pg_oaX]))
    cases Option.some.inj (q1.symm.trans hfound)
    cases Option.some.inj (q2.symm.trans (State.methodFound?_of_named Y.fill0 (by decide)))
    cases Option.some.inj (q3.symm.trans Y.fill0)
    rw [Launch.admits_selectMethod X.admits]; exact q4
  have hselF : selectMethod e.platform s.vm P1.m.cls T.fill = .method T.fill := by
    obtain ⟨c2, r2, m2, q1, q2, q3, q4, -⟩ := Cond.selects_spec (a' (.selects cls Bundle.tFill Bundle.tFill) (by simp [pg_oaX]))
    cases Option.some.inj (q1.symm.trans hfound)
    cases Option.some.inj (q2.symm.trans (State.methodFound?_of_named Y.fill (by decide)))
    cases Option.some.inj (q3.symm.trans Y.fill)
    rw [Launch.admits_selectMethod X.admits]; exact q4
  obtain ⟨cellS0, hcS0, hiss⟩ := Y.statics
  obtain ⟨u0, hu0⟩ := Cond.staticRefV Y.unassigned L.unassignedStatic L.statics hcS0 hiss (a' (.isRef (.static Bundle.tN "UNASSIGNED_STACK" Bundle.steD)) (by simp [pg_oaX]))
  obtain ⟨sen, hsen⟩ := Cond.staticRefV Y.sentinel L.sentinelStatic L.statics hcS0 hiss (a' (.isRef (.static Bundle.tN "SUPPRESSED_SENTINEL" Bundle.listD)) (by simp [pg_oaX]))
  obtain ⟨ci198, i198, fB, hk198, hg198, ha198, hsB, -, hnB, htB, hffB⟩ := Cond.ownField (t := .object "java/lang/Object") Y.found L.cls (by decide +kernel) (a' (.fieldLink Bundle.tN 198 Bundle.tN "backtrace" "Ljava/lang/Object;") (by simp [pg_oaX])) (a' (.lays Bundle.tN Bundle.tN "backtrace" "Ljava/lang/Object;") (by simp [pg_oaX])) e.platform hpl
  obtain ⟨cellS, hcS', heS, -, hkeep⟩ := X.same.2.2.2.2.2 T.aS cellS0 hcS0
  have hcellS : W.heap[T.aS]? = some cellS := hcS'
  have hout' : ∀ i, (⟨T.aS, i⟩ : Loc) ∉ locs := fun i hmem => by
    have := hlocs _ hmem cellS0 hcS0
    rw [hiss] at this; cases this
  have hknownS : cellS.vm ≠ .unknown := by
    rw [heS]; intro hu
    rw [show cellS0.vm = .unknown from hu] at hiss
    cases hiss
  have hneS : T.aS ≠ a := Nat.ne_of_lt (Nat.lt_of_lt_of_le (Array.getElem?_eq_some_iff.mp hcS0).1 hnew)
  obtain ⟨iM, hffM⟩ := Y.msg
  obtain ⟨tyC, dC, hdC, hdnC⟩ := Cond.laysAt hfound hk Y.cause (a' (.lays cls Bundle.tN "cause" "Ljava/lang/Throwable;") (by simp [pg_oaX]))
  obtain ⟨tyS, dS, hdS, hdnS⟩ := Cond.laysAt hfound hk Y.stack (a' (.lays cls Bundle.tN "stackTrace" Bundle.steD) (by simp [pg_oaX]))
  obtain ⟨tyP, dP, hdP, hdnP⟩ := Cond.laysAt hfound hk Y.supp (a' (.lays cls Bundle.tN "suppressedExceptions" Bundle.listD) (by simp [pg_oaX]))
  obtain ⟨tyM, dM, hdM, hdnM⟩ := Cond.laysAt hfound hk hffM (a' (.lays cls Bundle.tN "detailMessage" "Ljava/lang/String;") (by simp [pg_oaX]))
  obtain ⟨tyB, dB, hdB, hdnB⟩ := Cond.laysAt hfound hk hffB (a' (.lays cls Bundle.tN "backtrace" "Ljava/lang/Object;") (by simp [pg_oaX]))
  have bC := Cond.laysApart hdB hdC hdnB hdnC (by rw [hnB, Y.causeName]; decide)
  have bS := Cond.laysApart hdB hdS hdnB hdnS (by rw [hnB, Y.stackName]; decide)
  have bP := Cond.laysApart hdB hdP hdnB hdnP (by rw [hnB, Y.suppName]; decide)
  have hskip : SkipFacts T e.platform s (fun u => u) u0 ((preparedCellV T.toThrowableT (freshCell P1.m.cls kX) a u0 sen).withEntry W.cur) :=
    ⟨{ ci198 := ci198, i198 := i198, fBack := fB }, ⟨hk198, hg198, ha198, hsB⟩, by
      have := fresh_default (c := P1.m.cls) tyB
      rw [htB] at this
      simpa [preparedCellV, Cell.setSlot, Cell.withEntry, Array.getElem?_setIfInBounds, bC, bS, bP, bC.symm, bS.symm, bP.symm, defaultValue] using this, fun _ _ => rfl⟩
  obtain ⟨tm, methC, cdC, kC, vm₁, hnC, -, -, -, -, -, -, -, hW₁, st1⟩ := Steps.initColdS (tb := p.tables) (e := e) (below := below) (s := s) (U := W) X.here hexec X.warmed hpl hown (t := Bundle.initS cls) rfl rfl (Bundle.fit_spec hcls).2
    (a' (.methodLink own ic (Bundle.initS cls)) (by simp [pg_oaX])) (h (.instanceMethod (Bundle.initS cls)) (by simp [pg_oaX, pg_chX, Bundle.passSAtoms])) (bytes := rx) (maxL := 2) (h (.code (Bundle.initS cls) rx 2 none) (by simp [pg_oaX, pg_chX, Bundle.passSAtoms]))
    (f := g) hg (a := a) (msg := msg) (rest := .ref a :: rest) hstack hd6
  cases Option.some.inj (hnC.symm.trans hP1m)
  have X₁ := X.noted hW₁
  obtain ⟨vm₂, X₂, st2⟩ := X₁.ctorMessageOffV hexec (g := { g with stack := .ref a :: rest }) hg hsize T L Z LZ M LM (P1 :: Ps)
    (fun P hP => by rcases List.mem_cons.mp hP with rfl | hP; exact L1; exact hL P hP) ⟨hlink1, hlink⟩ (u0 := u0) (sen := sen) (self := a) hmsg (cell := freshCell P1.m.cls kX) (cellS := cellS)
    hcell (fun _ => by simp) (by simp) rfl rfl hsel0 hselF hcellS hneS hknownS (by rw [hkeep _ (hout' _)]; exact hu0) (by rw [hkeep _ (hout' _)]; exact hsen)
    (Takes.of_laid hk hord tyC (by rw [Y.causeType]; rfl)) (Takes.of_laid hk hord tyS (by rw [Y.stackType]; exact fits_refV_array _ u0)) (Takes.of_laid hk hord tyP (by rw [Y.suppType]; exact fits_refV_object _ sen))
    (Takes.of_laid hk hord tyM (by rw [Y.msgType]; exact fits_refV_object _ ⟨msg, hmsg⟩)) Y.objLocals hskip htr [] hd6
    (by simp only [List.length_cons, hlen]; omega) (by simp only [List.length_cons, hlen]; exact hRlocals)
  obtain ⟨hwalk, hrun, hended, hWU, hsame⟩ := X₂.athrowLeaves hexec (g := { g with stack := .ref a :: rest, pc := g.pc + 3 }) hg hlocked hentered hout (a := a) (rest := rest) rfl hd9
  have hlt : a < ((W.setVm vm₁).setVm vm₂).heap.size := (Array.getElem?_eq_some_iff.mp hcell).1
  have hU := heapAt_setCell_self (s := (W.setVm vm₁).setVm vm₂) (plainBareV T.toThrowableT (freshCell P1.m.cls kX) a u0 sen msg) hlt
  refine ⟨_, st1 _ (fun acts => ?_), hrun, hended, hWU, hsame.weaken (fun y hy hlt' => ?_) (Nat.le_refl _) (Nat.le_refl _), _, hU, ?_⟩
  · rw [doInvoke_state]
    exact st2 _ hwalk
  · rcases List.mem_append.mp hy with h1 | h1
    · exact h1
    · exfalso
      have hb : y.base = a := by
        simp only [List.mem_cons, List.not_mem_nil, or_false] at h1
        rcases h1 with rfl | rfl | rfl | rfl | rfl <;> rfl
      rw [hb] at hlt'
      exact Nat.not_lt.mpr hnew hlt'
  · exact ⟨rfl, hfound⟩
end PGX
section PGX2
variable {p : Program} {l : Launch} {e : Env} {R : Room} {s : State} {m : MethodId} {args : Array Value} {below : List Frame} {meth : Method} {c : Code} {T : State} {H : Heap} {locs : List Loc} {cells slots : Nat} {free : Addr → Prop} {pc : Nat} {ls : Array Slot} {rest : List Value} {Qc : Array Value → State → Outcome → State → Prop} {XC : String → State → State → Prop}
set_option maxHeartbeats 1000000 in
theorem pg_throwSX {cc : ByteArray} {pc : Nat} (hexec : p.tables.exec = Jvm.exec) (hb : c.code = cc) (hl : l.stackTraces = false) {own cls Y1 text : String} {names : List String} {ik is ic mc ms sa ix : Nat} {rx : ByteArray} (x0 : decode rx 0 = .ok (.aload_n 0, 1)) (x1 : decode rx 1 = .ok (.aload_n 1, 1)) (x2 : decode rx 2 = .ok (.invokespecial ix, 3)) (x5 : decode rx 5 = .ok (.return_, 1)) (hY1 : Bundle.fit Y1 = true) {A : Nat → Prop}
    (hown : s.vm.findClass own = some m.cls) (hcls : Bundle.fit cls = true) (hnames : ∀ n ∈ names, Bundle.fit n = true)
    (hk : (Cond.classLink own ik cls).before args s = true) (hini : (Cond.initialized cls).before args s = true) (hstr : vk_R own is text sa s) (hat : ∀ w ∈ pg_atX own ic cls ix rx Y1 names, w.before args s = true)
    (hgood : ∀ w ∈ Cond.classLink own ik cls :: Cond.initialized cls :: pg_atX own ic cls ix rx Y1 names, vx_ot w = true)
    (hU : vx_Zq Bundle.tN "UNASSIGNED_STACK" Bundle.steD A s s.heap) (hN : vx_Zq Bundle.tN "SUPPRESSED_SENTINEL" Bundle.listD A s s.heap) (hS : va_S A s.heap H locs) (hsize : ls.size = c.maxLocals)
    (d0 : decode cc pc = .ok (.new ik, 3)) (d3 : decode cc (pc + 3) = .ok (.dup, 1)) (d4 : decode cc (pc + 4) = .ok (.ldc is, 2)) (d6 : decode cc (pc + 6) = .ok (.invokespecial ic, 3)) (d9 : decode cc (pc + 9) = .ok (.athrow, 1))
    (hout : ∀ x ∈ c.exceptionTable.toList, covers x (pc + 9) = false)
    (hRframes : names.length + 4 < R.frames) (hRlocals : (rest.map fun v => v.category).sum + (13 * (names.length + 2) + 43) ≤ R.locals) (hRcells : cells + 1 ≤ R.cells) (hRslots : slots + 6 ≤ R.slots) (hlocks : meth.locks = false)
    (hx : ∀ t : State, s.vm.Alike t.vm → H.size ≤ t.heap.size → (∀ q : Nat, q < H.size → t.heap[q]? = H[q]?) → XC cls s t)
    (hf : ∀ z ∈ locs, free z.base) (hc : cells + 1 ≤ mc) (hs : slots + 6 ≤ ms) :
    W p l e R s m args below meth c H locs cells slots (vx_MQ below Qc XC args s mc ms free) (F0 m pc ls rest) := by
  intro T hT X
  have htr : e.platform.stackTraces = false := (show e.platform.stackTraces = l.stackTraces by rw [X.admits.platform]).trans hl
  have Y := vx_rebase X (R' := { frames := R.frames, locals := R.locals, cells := 1, slots := 6 }) (Nat.le_refl _) (Nat.le_refl _) hRcells hRslots
  obtain ⟨s', hA⟩ : ∃ z, z = (T.setVm s.vm).setFrames (.invoking m args :: below) := ⟨_, rfl⟩
  rw [← hA] at Y
  have hvm : s'.vm = s.vm := by rw [hA]; rfl
  have hhp : s'.heap = H := by rw [hA]; exact hT
  have hW0 : s.WarmedH s'.vm := by rw [hvm]; exact State.WarmedH.refl s
  have hat' : ∀ w ∈ pg_atX own ic cls ix rx Y1 names, w.before args s' = true := fun w hw => vx_ot_at hW0 hvm.symm (hgood w (List.mem_cons_of_mem _ (List.mem_cons_of_mem _ hw))) (hat w hw)
  have hk' : (Cond.classLink own ik cls).before args s' = true := vx_ot_at hW0 hvm.symm (hgood _ List.mem_cons_self) hk
  have hini' : (Cond.initialized cls).before args s' = true := vx_ot_at hW0 hvm.symm (hgood _ (List.mem_cons_of_mem _ List.mem_cons_self)) hini
  have hU' : vx_Zq Bundle.tN "UNASSIGNED_STACK" Bundle.steD A s' s'.heap := by rw [hhp]; exact vx_Zq.moved hW0.alike (hU.kept hS.2.1)
  have hN' : vx_Zq Bundle.tN "SUPPRESSED_SENTINEL" Bundle.listD A s' s'.heap := by rw [hhp]; exact vx_Zq.moved hW0.alike (hN.kept hS.2.1)
  have h : ∀ w ∈ pg_oaX own ic cls ix rx Y1 names, w.before args s' = true := vx_own hat' (vx_isRefq hU'.1) (vx_isRefq hN'.1) hU'.2.word hN'.2.word
  have hown' : s'.vm.findClass own = some m.cls := by rw [hvm]; exact hown
  have hins : (Cond.instantiable cls 6).before args s' = true := h _ (by simp [pg_oaX])
  obtain ⟨vm₁, cX, kX, hfX, hkX, -, -, X₁, st1⟩ := Y.newCold hexec (own := own) (C := cls) (index := ik) (n := 6) hown' hk' hins hini'
    (g := F0 m pc ls rest) rfl (by rw [hb]; exact d0) (Nat.le_refl _) (Nat.le_refl _)
  generalize hT1 : (T.setVm vm₁).pushCell { cls := cX, slots := kX.instanceTypes.map defaultValue, vm := .none } = T1 at X₁ st1
  have hcat : (Value.ref T.heap.size).category = 1 := rfl
  have hcellA : T1.heap[T.heap.size]? = some (freshCell cX kX) := by rw [← hT1]; exact State.heap_pushCell_size _ _
  have d3' : decode c.code (pc + 3) = .ok (.dup, 1) := by rw [hb]; exact d3
  have d4' : decode c.code (pc + 4) = .ok (.ldc is, 2) := by rw [hb]; exact d4
  have hstr' : vk_R own is text sa s' := vk_R.warm hW0 hstr
  obtain ⟨U, hsteps, hrun, hend, hW, hsame, ce, hce, hOvm, hOcls⟩ := pg_ctorThrowX X₁ hexec htr (own := own) (cls := cls) (names := names) (ic := ic) x0 x1 x2 x5 hY1 hown' hcls hnames h (fun x hx => nomatch hx) hfX hkX hcellA (by rw [hhp, hT]; exact Nat.le_refl _) (msg := .ref sa) rfl
    (g := { method := m, pc := pc + 6, locals := ls, stack := .ref sa :: .ref T.heap.size :: .ref T.heap.size :: rest, locked := none }) rfl hsize rfl rfl (rest := rest) rfl
    (by rw [hb]; exact d6) (by rw [hb]; exact d9) hout hRframes (by simp only [List.map_cons, List.sum_cons, hcat]; omega) hlocks
  obtain ⟨f1, f2⟩ := vx_frame hsame
  rw [hhp] at f1 f2
  have hWs : s.WarmedH U.vm := State.WarmedH.trans hW0 hW
  have hcl : s.vm.findClass cls = some ce.cls := by
    have h9 := hOcls
    rw [hvm] at h9
    exact h9
  have hall : s.sameButNew ({ U with vm := s.vm } : State) locs mc ms := by
    subst hA
    obtain ⟨e1, e2⟩ := hsame
    rw [State.setFrames_setFrames] at e1
    have h2 : (T.setVm s.vm).sameButNew ({ U with vm := s.vm } : State) [] (0 + 1) (0 + 6) := ⟨e1, e2⟩
    have h3 := X.same.trans h2
    rw [List.append_nil] at h3
    exact h3.mono hc hs
  refine ⟨U, ?_, .threw T.heap.size, hrun, hend, Or.inr ⟨T.heap.size, rfl, cls, ce, locs, hx U hWs.alike f1 (fun q hq => f2 q hq (fun z hz => nomatch hz)), hce, hOvm, hcl, hWs, hall, hf⟩⟩
  refine st1 _ ?_
  show Steps p.tables e below (T1.setTop { method := m, pc := pc + 3, locals := ls, stack := .ref T.heap.size :: rest, locked := none }) _
  jvm_step X₁.here [X₁.here.top, hexec, d3', Value.category]
  exact X₁.ldcString hexec (own := own) (text := text) (index := is) (a := sa) hown' hstr'.1 hstr'.2
    (g := { method := m, pc := pc + 4, locals := ls, stack := .ref T.heap.size :: .ref T.heap.size :: rest, locked := none }) rfl d4' _ hsteps
end PGX2
end
section
/-! ===== BEGIN printed: names, fields, word lists, decode rows ===== -/
def RX0 : String := "Pegfield"
def TX0 : u_T := fun k => match k with
  | 0 => ("Pegfield", "standing", "[Z", true)
  | 1 => ("Pegfield", "acrossOf", "[I", true)
  | 2 => ("Pegfield", "upOf", "[I", true)
  | 3 => ("Pegfield", "ring", "[I", true)
  | 4 => ("Pegfield", "ringSize", "I", false)
  | _ => ("Pegfield", "wide", "Z", false)
def tyX0 : Nat → FieldType := fun k => match k with
  | 0 => .array .boolean
  | 1 => .array .int
  | 2 => .array .int
  | 3 => .array .int
  | 4 => .int
  | _ => .boolean
abbrev wsX00 : List Cond := u_ws RX0 TX0 6
theorem nmX0 : ∀ a, a < 6 → ∀ b, b < 6 → a ≠ b → (TX0 a).2.1 ≠ (TX0 b).2.1 := by decide +kernel
theorem tyX0_ok : ∀ k, k < 6 → parseFieldDescriptor (TX0 k).2.2.1 = some (tyX0 k) := by decide +kernel
abbrev cX0_init : ByteArray := prog_1_method_1_code
def yX0_init : MethodName := ⟨RX0, "<init>", "()V"⟩
abbrev cX0_put : ByteArray := prog_1_method_2_code
def yX0_put : MethodName := ⟨RX0, "put", "(III)Z"⟩
abbrev cX0_take : ByteArray := prog_1_method_3_code
def yX0_take : MethodName := ⟨RX0, "take", "(I)V"⟩
abbrev cX0_step : ByteArray := prog_1_method_4_code
def yX0_step : MethodName := ⟨RX0, "step", "(IC)Z"⟩
abbrev cX0_isThere : ByteArray := prog_1_method_5_code
def yX0_isThere : MethodName := ⟨RX0, "isThere", "(I)Z"⟩
abbrev cX0_placeOf : ByteArray := prog_1_method_6_code
def yX0_placeOf : MethodName := ⟨RX0, "placeOf", "(I)I"⟩
abbrev cX0_count : ByteArray := prog_1_method_7_code
def yX0_count : MethodName := ⟨RX0, "count", "()I"⟩
abbrev cX0_widen : ByteArray := prog_1_method_8_code
def yX0_widen : MethodName := ⟨RX0, "widen", "(Z)Z"⟩
abbrev cX0_stretch : ByteArray := prog_1_method_9_code
def yX0_stretch : MethodName := ⟨RX0, "stretch", "(II)I"⟩
abbrev cX0_isSteady : ByteArray := prog_1_method_10_code
def yX0_isSteady : MethodName := ⟨RX0, "isSteady", "(II)Z"⟩
abbrev cX0_isDoubled : ByteArray := prog_1_method_11_code
def yX0_isDoubled : MethodName := ⟨RX0, "isDoubled", "(II)Z"⟩
abbrev cX0_isClose : ByteArray := prog_1_method_12_code
def yX0_isClose : MethodName := ⟨RX0, "isClose", "(II)Z"⟩
abbrev cX0_isStraight : ByteArray := prog_1_method_13_code
def yX0_isStraight : MethodName := ⟨RX0, "isStraight", "(III)Z"⟩
abbrev cX0_nearest : ByteArray := prog_1_method_14_code
def yX0_nearest : MethodName := ⟨RX0, "nearest", "(I)I"⟩
abbrev cX0_rank : ByteArray := prog_1_method_15_code
def yX0_rank : MethodName := ⟨RX0, "rank", "(II)I"⟩
abbrev cX0_isIn : ByteArray := prog_1_method_16_code
def yX0_isIn : MethodName := ⟨RX0, "isIn", "(IIIZ)Z"⟩
abbrev cX0_root : ByteArray := prog_1_method_17_code
def yX0_root : MethodName := ⟨RX0, "root", "(IZ)D"⟩
abbrev cX0_rootBits : ByteArray := prog_1_method_18_code
def yX0_rootBits : MethodName := ⟨RX0, "rootBits", "(IZ)J"⟩
abbrev cX0_rootGrains : ByteArray := prog_1_method_19_code
def yX0_rootGrains : MethodName := ⟨RX0, "rootGrains", "(IZ)I"⟩
abbrev cX0_wholeRoot : ByteArray := prog_1_method_20_code
def yX0_wholeRoot : MethodName := ⟨RX0, "wholeRoot", "(I)I"⟩
abbrev cX0_isNearest : ByteArray := prog_1_method_21_code
def yX0_isNearest : MethodName := ⟨RX0, "isNearest", "(IZ)Z"⟩
abbrev cX0_isHalved : ByteArray := prog_1_method_22_code
def yX0_isHalved : MethodName := ⟨RX0, "isHalved", "(I)Z"⟩
abbrev cX0_between : ByteArray := prog_1_method_23_code
def yX0_between : MethodName := ⟨RX0, "between", "(IIZ)I"⟩
abbrev cX0_join : ByteArray := prog_1_method_24_code
def yX0_join : MethodName := ⟨RX0, "join", "(I)I"⟩
abbrev cX0_unjoin : ByteArray := prog_1_method_25_code
def yX0_unjoin : MethodName := ⟨RX0, "unjoin", "()I"⟩
abbrev cX0_ringAt : ByteArray := prog_1_method_26_code
def yX0_ringAt : MethodName := ⟨RX0, "ringAt", "(I)I"⟩
abbrev cX0_around : ByteArray := prog_1_method_27_code
def yX0_around : MethodName := ⟨RX0, "around", "()I"⟩
abbrev cX0_doubleArea : ByteArray := prog_1_method_28_code
def yX0_doubleArea : MethodName := ⟨RX0, "doubleArea", "()I"⟩
abbrev cX0_sideBits : ByteArray := prog_1_method_29_code
def yX0_sideBits : MethodName := ⟨RX0, "sideBits", "()J"⟩
abbrev cX0_checksum : ByteArray := prog_1_method_30_code
def yX0_checksum : MethodName := ⟨RX0, "checksum", "()J"⟩
abbrev cX0_isSound : ByteArray := prog_1_method_31_code
def yX0_isSound : MethodName := ⟨RX0, "isSound", "()Z"⟩
abbrev cX0_arePairsSound : ByteArray := prog_1_method_32_code
def yX0_arePairsSound : MethodName := ⟨RX0, "arePairsSound", "()Z"⟩
abbrev cX0_areThreesSound : ByteArray := prog_1_method_33_code
def yX0_areThreesSound : MethodName := ⟨RX0, "areThreesSound", "()Z"⟩
abbrev cX0_isStraightByAll : ByteArray := prog_1_method_34_code
def yX0_isStraightByAll : MethodName := ⟨RX0, "isStraightByAll", "(II)Z"⟩
abbrev cX0_isAreaSound : ByteArray := prog_1_method_35_code
def yX0_isAreaSound : MethodName := ⟨RX0, "isAreaSound", "()Z"⟩
abbrev cX0_isRootSound : ByteArray := prog_1_method_36_code
def yX0_isRootSound : MethodName := ⟨RX0, "isRootSound", "(I)Z"⟩
abbrev cX0_isPeg : ByteArray := prog_1_method_37_code
def yX0_isPeg : MethodName := ⟨RX0, "isPeg", "(I)Z"⟩
abbrev cX0_isPlace : ByteArray := prog_1_method_38_code
def yX0_isPlace : MethodName := ⟨RX0, "isPlace", "(I)Z"⟩
abbrev cX0_isNumber : ByteArray := prog_1_method_39_code
def yX0_isNumber : MethodName := ⟨RX0, "isNumber", "(I)Z"⟩
abbrev cX0_requirePeg : ByteArray := prog_1_method_40_code
def yX0_requirePeg : MethodName := ⟨RX0, "requirePeg", "(I)V"⟩
abbrev cX0_requireStanding : ByteArray := prog_1_method_41_code
def yX0_requireStanding : MethodName := ⟨RX0, "requireStanding", "(I)V"⟩
abbrev cX0_requireTwo : ByteArray := prog_1_method_42_code
def yX0_requireTwo : MethodName := ⟨RX0, "requireTwo", "(II)V"⟩
abbrev cX0_requireNumber : ByteArray := prog_1_method_43_code
def yX0_requireNumber : MethodName := ⟨RX0, "requireNumber", "(I)V"⟩
abbrev cX0_stands : ByteArray := prog_1_method_44_code
def yX0_stands : MethodName := ⟨RX0, "stands", "(I)Z"⟩
abbrev cX0_across : ByteArray := prog_1_method_45_code
def yX0_across : MethodName := ⟨RX0, "across", "(I)I"⟩
abbrev cX0_up : ByteArray := prog_1_method_46_code
def yX0_up : MethodName := ⟨RX0, "up", "(I)I"⟩
abbrev cX0_moveTo : ByteArray := prog_1_method_47_code
def yX0_moveTo : MethodName := ⟨RX0, "moveTo", "(III)V"⟩
abbrev cX0_pegInRing : ByteArray := prog_1_method_48_code
def yX0_pegInRing : MethodName := ⟨RX0, "pegInRing", "(I)I"⟩
abbrev cX0_placeAfter : ByteArray := prog_1_method_49_code
def yX0_placeAfter : MethodName := ⟨RX0, "placeAfter", "(I)I"⟩
abbrev cX0_isInRing : ByteArray := prog_1_method_50_code
def yX0_isInRing : MethodName := ⟨RX0, "isInRing", "(I)Z"⟩
abbrev cX0_nearestOther : ByteArray := prog_1_method_51_code
def yX0_nearestOther : MethodName := ⟨RX0, "nearestOther", "(I)I"⟩
abbrev cX0_stretchGrains : ByteArray := prog_1_method_52_code
def yX0_stretchGrains : MethodName := ⟨RX0, "stretchGrains", "(II)I"⟩
abbrev cX0_sixteenthsOf : ByteArray := prog_1_method_53_code
def yX0_sixteenthsOf : MethodName := ⟨RX0, "sixteenthsOf", "(IZ)I"⟩
abbrev cX0_squareSum : ByteArray := prog_1_method_54_code
def yX0_squareSum : MethodName := ⟨RX0, "squareSum", "(IIZ)I"⟩
abbrev cX0_hypotenuseBits : ByteArray := prog_1_method_55_code
def yX0_hypotenuseBits : MethodName := ⟨RX0, "hypotenuseBits", "(IIZ)J"⟩
abbrev cX0_wholePart : ByteArray := prog_1_method_56_code
def yX0_wholePart : MethodName := ⟨RX0, "wholePart", "(I)I"⟩
abbrev cX0_grainsOfRoot : ByteArray := prog_1_method_57_code
def yX0_grainsOfRoot : MethodName := ⟨RX0, "grainsOfRoot", "(I)I"⟩
abbrev cX0_rootDigits : ByteArray := prog_1_method_58_code
def yX0_rootDigits : MethodName := ⟨RX0, "rootDigits", "(II)J"⟩
abbrev cX0_bitsOfRoot : ByteArray := prog_1_method_59_code
def yX0_bitsOfRoot : MethodName := ⟨RX0, "bitsOfRoot", "(I)J"⟩
abbrev cX0_highestPair : ByteArray := prog_1_method_60_code
def yX0_highestPair : MethodName := ⟨RX0, "highestPair", "(I)I"⟩
abbrev cX0_unitsOf : ByteArray := prog_1_method_61_code
def yX0_unitsOf : MethodName := ⟨RX0, "unitsOf", "(J)J"⟩
abbrev cX0_placesAfterPoint : ByteArray := prog_1_method_62_code
def yX0_placesAfterPoint : MethodName := ⟨RX0, "placesAfterPoint", "(J)I"⟩
abbrev cX0_twice : ByteArray := prog_1_method_63_code
def yX0_twice : MethodName := ⟨RX0, "twice", "(J)J"⟩
abbrev cX0_doubleOf : ByteArray := prog_1_method_64_code
def yX0_doubleOf : MethodName := ⟨RX0, "doubleOf", "(J)D"⟩
abbrev cX0_compareSquare : ByteArray := prog_1_method_65_code
def yX0_compareSquare : MethodName := ⟨RX0, "compareSquare", "(JII)I"⟩
def RX1 : String := "PegfieldModel"
def TX1 : u_T := fun k => match k with
  | 0 => ("PegfieldModel", "thrown", "I", false)
  | 1 => ("PegfieldModel", "stands", "[Z", true)
  | 2 => ("PegfieldModel", "across", "[I", true)
  | 3 => ("PegfieldModel", "up", "[I", true)
  | 4 => ("PegfieldModel", "ring", "[I", true)
  | 5 => ("PegfieldModel", "size", "I", false)
  | _ => ("PegfieldModel", "isWide", "Z", false)
def tyX1 : Nat → FieldType := fun k => match k with
  | 0 => .int
  | 1 => .array .boolean
  | 2 => .array .int
  | 3 => .array .int
  | 4 => .array .int
  | 5 => .int
  | _ => .boolean
abbrev wsX10 : List Cond := u_ws RX1 TX1 7
theorem nmX1 : ∀ a, a < 7 → ∀ b, b < 7 → a ≠ b → (TX1 a).2.1 ≠ (TX1 b).2.1 := by decide +kernel
theorem tyX1_ok : ∀ k, k < 7 → parseFieldDescriptor (TX1 k).2.2.1 = some (tyX1 k) := by decide +kernel
abbrev cX1_init : ByteArray := prog_3_method_1_code
def yX1_init : MethodName := ⟨RX1, "<init>", "()V"⟩
abbrev cX1_thrown : ByteArray := prog_3_method_2_code
def yX1_thrown : MethodName := ⟨RX1, "thrown", "()I"⟩
abbrev cX1_isThrown : ByteArray := prog_3_method_3_code
def yX1_isThrown : MethodName := ⟨RX1, "isThrown", "(ZI)Z"⟩
abbrev cX1_lies : ByteArray := prog_3_method_4_code
def yX1_lies : MethodName := ⟨RX1, "lies", "(III)Z"⟩
abbrev cX1_isNoNumber : ByteArray := prog_3_method_5_code
def yX1_isNoNumber : MethodName := ⟨RX1, "isNoNumber", "(I)Z"⟩
abbrev cX1_isNoPeg : ByteArray := prog_3_method_6_code
def yX1_isNoPeg : MethodName := ⟨RX1, "isNoPeg", "(I)Z"⟩
abbrev cX1_isNoPair : ByteArray := prog_3_method_7_code
def yX1_isNoPair : MethodName := ⟨RX1, "isNoPair", "(II)Z"⟩
abbrev cX1_isNoAsked : ByteArray := prog_3_method_8_code
def yX1_isNoAsked : MethodName := ⟨RX1, "isNoAsked", "(II)Z"⟩
abbrev cX1_rooted : ByteArray := prog_3_method_9_code
def yX1_rooted : MethodName := ⟨RX1, "rooted", "(II)J"⟩
abbrev cX1_near : ByteArray := prog_3_method_10_code
def yX1_near : MethodName := ⟨RX1, "near", "(II)J"⟩
abbrev cX1_powerOf : ByteArray := prog_3_method_11_code
def yX1_powerOf : MethodName := ⟨RX1, "powerOf", "(I)I"⟩
abbrev cX1_bitsOf : ByteArray := prog_3_method_12_code
def yX1_bitsOf : MethodName := ⟨RX1, "bitsOf", "(IZ)J"⟩
abbrev cX1_rootGrainsOf : ByteArray := prog_3_method_13_code
def yX1_rootGrainsOf : MethodName := ⟨RX1, "rootGrainsOf", "(IZ)I"⟩
abbrev cX1_wholeOf : ByteArray := prog_3_method_14_code
def yX1_wholeOf : MethodName := ⟨RX1, "wholeOf", "(IZ)I"⟩
abbrev cX1_put : ByteArray := prog_3_method_15_code
def yX1_put : MethodName := ⟨RX1, "put", "(III)Z"⟩
abbrev cX1_isInRing : ByteArray := prog_3_method_16_code
def yX1_isInRing : MethodName := ⟨RX1, "isInRing", "(I)Z"⟩
abbrev cX1_take : ByteArray := prog_3_method_17_code
def yX1_take : MethodName := ⟨RX1, "take", "(I)V"⟩
abbrev cX1_step : ByteArray := prog_3_method_18_code
def yX1_step : MethodName := ⟨RX1, "step", "(IC)Z"⟩
abbrev cX1_isThere : ByteArray := prog_3_method_19_code
def yX1_isThere : MethodName := ⟨RX1, "isThere", "(I)Z"⟩
abbrev cX1_placed : ByteArray := prog_3_method_20_code
def yX1_placed : MethodName := ⟨RX1, "placed", "(I)I"⟩
abbrev cX1_placeOf : ByteArray := prog_3_method_21_code
def yX1_placeOf : MethodName := ⟨RX1, "placeOf", "(I)I"⟩
abbrev cX1_count : ByteArray := prog_3_method_22_code
def yX1_count : MethodName := ⟨RX1, "count", "()I"⟩
abbrev cX1_widen : ByteArray := prog_3_method_23_code
def yX1_widen : MethodName := ⟨RX1, "widen", "(Z)Z"⟩
abbrev cX1_grainsOf : ByteArray := prog_3_method_24_code
def yX1_grainsOf : MethodName := ⟨RX1, "grainsOf", "(II)I"⟩
abbrev cX1_stretch : ByteArray := prog_3_method_25_code
def yX1_stretch : MethodName := ⟨RX1, "stretch", "(II)I"⟩
abbrev cX1_isSteady : ByteArray := prog_3_method_26_code
def yX1_isSteady : MethodName := ⟨RX1, "isSteady", "(II)Z"⟩
abbrev cX1_isDoubled : ByteArray := prog_3_method_27_code
def yX1_isDoubled : MethodName := ⟨RX1, "isDoubled", "(II)Z"⟩
abbrev cX1_isClose : ByteArray := prog_3_method_28_code
def yX1_isClose : MethodName := ⟨RX1, "isClose", "(II)Z"⟩
abbrev cX1_isNoLonger : ByteArray := prog_3_method_29_code
def yX1_isNoLonger : MethodName := ⟨RX1, "isNoLonger", "(III)Z"⟩
abbrev cX1_isStraight : ByteArray := prog_3_method_30_code
def yX1_isStraight : MethodName := ⟨RX1, "isStraight", "(III)Z"⟩
abbrev cX1_nearestTo : ByteArray := prog_3_method_31_code
def yX1_nearestTo : MethodName := ⟨RX1, "nearestTo", "(I)I"⟩
abbrev cX1_nearest : ByteArray := prog_3_method_32_code
def yX1_nearest : MethodName := ⟨RX1, "nearest", "(I)I"⟩
abbrev cX1_rank : ByteArray := prog_3_method_33_code
def yX1_rank : MethodName := ⟨RX1, "rank", "(II)I"⟩
abbrev cX1_isIn : ByteArray := prog_3_method_34_code
def yX1_isIn : MethodName := ⟨RX1, "isIn", "(IIIZ)Z"⟩
abbrev cX1_root : ByteArray := prog_3_method_35_code
def yX1_root : MethodName := ⟨RX1, "root", "(IZ)D"⟩
abbrev cX1_rootBits : ByteArray := prog_3_method_36_code
def yX1_rootBits : MethodName := ⟨RX1, "rootBits", "(IZ)J"⟩
abbrev cX1_rootGrains : ByteArray := prog_3_method_37_code
def yX1_rootGrains : MethodName := ⟨RX1, "rootGrains", "(IZ)I"⟩
abbrev cX1_wholeRoot : ByteArray := prog_3_method_38_code
def yX1_wholeRoot : MethodName := ⟨RX1, "wholeRoot", "(I)I"⟩
abbrev cX1_isNearest : ByteArray := prog_3_method_39_code
def yX1_isNearest : MethodName := ⟨RX1, "isNearest", "(IZ)Z"⟩
abbrev cX1_isHalved : ByteArray := prog_3_method_40_code
def yX1_isHalved : MethodName := ⟨RX1, "isHalved", "(I)Z"⟩
abbrev cX1_between : ByteArray := prog_3_method_41_code
def yX1_between : MethodName := ⟨RX1, "between", "(IIZ)I"⟩
abbrev cX1_join : ByteArray := prog_3_method_42_code
def yX1_join : MethodName := ⟨RX1, "join", "(I)I"⟩
abbrev cX1_unjoin : ByteArray := prog_3_method_43_code
def yX1_unjoin : MethodName := ⟨RX1, "unjoin", "()I"⟩
abbrev cX1_ringAt : ByteArray := prog_3_method_44_code
def yX1_ringAt : MethodName := ⟨RX1, "ringAt", "(I)I"⟩
abbrev cX1_behind : ByteArray := prog_3_method_45_code
def yX1_behind : MethodName := ⟨RX1, "behind", "(I)I"⟩
abbrev cX1_around : ByteArray := prog_3_method_46_code
def yX1_around : MethodName := ⟨RX1, "around", "()I"⟩
abbrev cX1_doubleArea : ByteArray := prog_3_method_47_code
def yX1_doubleArea : MethodName := ⟨RX1, "doubleArea", "()I"⟩
abbrev cX1_sideBits : ByteArray := prog_3_method_48_code
def yX1_sideBits : MethodName := ⟨RX1, "sideBits", "()J"⟩
abbrev cX1_checksum : ByteArray := prog_3_method_49_code
def yX1_checksum : MethodName := ⟨RX1, "checksum", "()J"⟩
abbrev cX1_isSound : ByteArray := prog_3_method_50_code
def yX1_isSound : MethodName := ⟨RX1, "isSound", "()Z"⟩
def RJx145de : String := "java/io/Serializable"
def TJx145de : u_T := fun k => match k with
  | _ => ("", "", "", false)
def tyJx145de : Nat → FieldType := fun k => match k with
  | _ => .int
abbrev wsJx145de0 : List Cond := u_ws RJx145de TJx145de 0
theorem nmJx145de : ∀ a, a < 0 → ∀ b, b < 0 → a ≠ b → (TJx145de a).2.1 ≠ (TJx145de b).2.1 := by decide +kernel
theorem tyJx145de_ok : ∀ k, k < 0 → parseFieldDescriptor (TJx145de k).2.2.1 = some (tyJx145de k) := by decide +kernel
def RJ9 : String := "java/lang/Math"
def TJ9 : u_T := fun k => match k with
  | _ => ("", "", "", false)
def tyJ9 : Nat → FieldType := fun k => match k with
  | _ => .int
abbrev wsJ90 : List Cond := u_ws RJ9 TJ9 0
theorem nmJ9 : ∀ a, a < 0 → ∀ b, b < 0 → a ≠ b → (TJ9 a).2.1 ≠ (TJ9 b).2.1 := by decide +kernel
theorem tyJ9_ok : ∀ k, k < 0 → parseFieldDescriptor (TJ9 k).2.2.1 = some (tyJ9 k) := by decide +kernel
abbrev cJ9_abs_0f7a4 : ByteArray := prog_9_method_59_code
def yJ9_abs_0f7a4 : MethodName := ⟨RJ9, "abs", "(I)I"⟩
def RJ0 : String := "java/lang/String"
def TJ0 : u_T := fun k => match k with
  | _ => ("", "", "", false)
def tyJ0 : Nat → FieldType := fun k => match k with
  | _ => .int
abbrev wsJ00 : List Cond := u_ws RJ0 TJ0 0
theorem nmJ0 : ∀ a, a < 0 → ∀ b, b < 0 → a ≠ b → (TJ0 a).2.1 ≠ (TJ0 b).2.1 := by decide +kernel
theorem tyJ0_ok : ∀ k, k < 0 → parseFieldDescriptor (TJ0 k).2.2.1 = some (tyJ0 k) := by decide +kernel
def RL : String := "PegfieldLaw"
abbrev cL_put : ByteArray := method_3_code
def yL_put : MethodName := ⟨RL, "put", "(LPegfield;III[J)I"⟩
abbrev cL_take : ByteArray := method_4_code
def yL_take : MethodName := ⟨RL, "take", "(LPegfield;I)I"⟩
abbrev cL_step : ByteArray := method_5_code
def yL_step : MethodName := ⟨RL, "step", "(LPegfield;IC[J)I"⟩
abbrev cL_isThere : ByteArray := method_6_code
def yL_isThere : MethodName := ⟨RL, "isThere", "(LPegfield;I[J)I"⟩
abbrev cL_placeOf : ByteArray := method_7_code
def yL_placeOf : MethodName := ⟨RL, "placeOf", "(LPegfield;I[J)I"⟩
abbrev cL_stretch : ByteArray := method_8_code
def yL_stretch : MethodName := ⟨RL, "stretch", "(LPegfield;II[J)I"⟩
abbrev cL_isSteady : ByteArray := method_9_code
def yL_isSteady : MethodName := ⟨RL, "isSteady", "(LPegfield;II[J)I"⟩
abbrev cL_isDoubled : ByteArray := method_10_code
def yL_isDoubled : MethodName := ⟨RL, "isDoubled", "(LPegfield;II[J)I"⟩
abbrev cL_isClose : ByteArray := method_11_code
def yL_isClose : MethodName := ⟨RL, "isClose", "(LPegfield;II[J)I"⟩
abbrev cL_isStraight : ByteArray := method_12_code
def yL_isStraight : MethodName := ⟨RL, "isStraight", "(LPegfield;III[J)I"⟩
abbrev cL_nearest : ByteArray := method_13_code
def yL_nearest : MethodName := ⟨RL, "nearest", "(LPegfield;I[J)I"⟩
abbrev cL_rank : ByteArray := method_14_code
def yL_rank : MethodName := ⟨RL, "rank", "(LPegfield;II[J)I"⟩
abbrev cL_isIn : ByteArray := method_15_code
def yL_isIn : MethodName := ⟨RL, "isIn", "(LPegfield;IIIZ[J)I"⟩
abbrev cL_root : ByteArray := method_16_code
def yL_root : MethodName := ⟨RL, "root", "(LPegfield;IZ[D)I"⟩
abbrev cL_rootBits : ByteArray := method_17_code
def yL_rootBits : MethodName := ⟨RL, "rootBits", "(LPegfield;IZ[J)I"⟩
abbrev cL_rootGrains : ByteArray := method_18_code
def yL_rootGrains : MethodName := ⟨RL, "rootGrains", "(LPegfield;IZ[J)I"⟩
abbrev cL_wholeRoot : ByteArray := method_19_code
def yL_wholeRoot : MethodName := ⟨RL, "wholeRoot", "(LPegfield;I[J)I"⟩
abbrev cL_isNearest : ByteArray := method_20_code
def yL_isNearest : MethodName := ⟨RL, "isNearest", "(LPegfield;IZ[J)I"⟩
abbrev cL_isHalved : ByteArray := method_21_code
def yL_isHalved : MethodName := ⟨RL, "isHalved", "(LPegfield;I[J)I"⟩
abbrev cL_between : ByteArray := method_22_code
def yL_between : MethodName := ⟨RL, "between", "(LPegfield;IIZ[J)I"⟩
abbrev cL_join : ByteArray := method_23_code
def yL_join : MethodName := ⟨RL, "join", "(LPegfield;I[J)I"⟩
abbrev cL_unjoin : ByteArray := method_24_code
def yL_unjoin : MethodName := ⟨RL, "unjoin", "(LPegfield;[J)I"⟩
abbrev cL_ringAt : ByteArray := method_25_code
def yL_ringAt : MethodName := ⟨RL, "ringAt", "(LPegfield;I[J)I"⟩
abbrev cL_sideBits : ByteArray := method_26_code
def yL_sideBits : MethodName := ⟨RL, "sideBits", "(LPegfield;[J)I"⟩
abbrev cL_law : ByteArray := code
def yL_law : MethodName := ⟨RL, "law", "([I)Z"⟩
def wsX0_init : List Cond := .code yX0_init cX0_init 1 none :: ([.methodLink RX0 3 objectInit, .instanceMethod objectInit, .code objectInit ⟨#[0xb1]⟩ 1 none, .arrayClass .boolean, .fieldLink RX0 9 "Pegfield" "standing" "[Z", .arrayClass .int, .fieldLink RX0 13 "Pegfield" "acrossOf" "[I", .fieldLink RX0 17 "Pegfield" "upOf" "[I", .fieldLink RX0 20 "Pegfield" "ring" "[I", .fieldLink RX0 23 "Pegfield" "ringSize" "I", .fieldLink RX0 27 "Pegfield" "wide" "Z"] ++ wsX00)
def wsX0_isPeg : List Cond := .code yX0_isPeg cX0_isPeg 1 (some .boolean) :: ([])
def wsX0_requirePeg : List Cond := .code yX0_requirePeg cX0_requirePeg 1 none :: ([.classLink RX0 142 "java/lang/IndexOutOfBoundsException", .initialized "java/lang/IndexOutOfBoundsException", .methodLink RX0 64 yX0_isPeg, .static yX0_isPeg, .initialized RX0, .code yX0_isPeg cX0_isPeg 1 (some .boolean)] ++ (vx_atS RX0 146 "java/lang/IndexOutOfBoundsException" ["java/lang/RuntimeException", "java/lang/Exception"]).filter goodWord)
def wsX0_isPlace : List Cond := .code yX0_isPlace cX0_isPlace 1 (some .boolean) :: ([])
def wsX0_stands : List Cond := .code yX0_stands cX0_stands 2 (some .boolean) :: ([.fieldLink RX0 9 "Pegfield" "standing" "[Z", .methodLink RX0 64 yX0_isPeg, .static yX0_isPeg, .initialized RX0, .code yX0_isPeg cX0_isPeg 1 (some .boolean)] ++ wsX00)
def wsX0_moveTo : List Cond := .code yX0_moveTo cX0_moveTo 4 none :: ([.fieldLink RX0 9 "Pegfield" "standing" "[Z", .fieldLink RX0 13 "Pegfield" "acrossOf" "[I", .fieldLink RX0 17 "Pegfield" "upOf" "[I", .methodLink RX0 64 yX0_isPeg, .static yX0_isPeg, .initialized RX0, .code yX0_isPeg cX0_isPeg 1 (some .boolean)] ++ wsX00)
def wsX0_put_r1 : List Cond := [Cond.classLink RX0 39 "java/lang/IllegalArgumentException", Cond.initialized "java/lang/IllegalArgumentException", Cond.methodLink RX0 31 yX0_requirePeg, Cond.static yX0_requirePeg, Cond.initialized RX0, Cond.code yX0_requirePeg cX0_requirePeg 1 none, Cond.classLink RX0 142 "java/lang/IndexOutOfBoundsException", Cond.initialized "java/lang/IndexOutOfBoundsException", Cond.methodLink RX0 64 yX0_isPeg, Cond.static yX0_isPeg, Cond.code yX0_isPeg cX0_isPeg 1 (some .boolean), Cond.methodLink RX0 35 yX0_isPlace, Cond.static yX0_isPlace, Cond.code yX0_isPlace cX0_isPlace 1 (some .boolean), Cond.methodLink RX0 46 yX0_stands, Cond.instanceMethod yX0_stands, Cond.selects RX0 yX0_stands yX0_stands, Cond.code yX0_stands cX0_stands 2 (some .boolean), Cond.fieldLink RX0 9 "Pegfield" "standing" "[Z", Cond.methodLink RX0 49 yX0_moveTo, Cond.instanceMethod yX0_moveTo, Cond.selects RX0 yX0_moveTo yX0_moveTo, Cond.code yX0_moveTo cX0_moveTo 4 none, Cond.fieldLink RX0 13 "Pegfield" "acrossOf" "[I"]
def wsX0_put_r2 : List Cond := [Cond.fieldLink RX0 17 "Pegfield" "upOf" "[I"]
def wsX0_put : List Cond := .code yX0_put cX0_put 5 (some .boolean) :: ((wsX0_put_r1 ++ wsX0_put_r2) ++ wsX00 ++ (vx_atS RX0 43 "java/lang/IllegalArgumentException" ["java/lang/RuntimeException", "java/lang/Exception"]).filter goodWord ++ (vx_atS RX0 146 "java/lang/IndexOutOfBoundsException" ["java/lang/RuntimeException", "java/lang/Exception"]).filter goodWord)
def wsX0_requireStanding : List Cond := .code yX0_requireStanding cX0_requireStanding 2 none :: ([.classLink RX0 214 "java/util/NoSuchElementException", .initialized "java/util/NoSuchElementException", .methodLink RX0 46 yX0_stands, .instanceMethod yX0_stands, .selects RX0 yX0_stands yX0_stands, .initialized RX0, .code yX0_stands cX0_stands 2 (some .boolean), .fieldLink RX0 9 "Pegfield" "standing" "[Z", .methodLink RX0 64 yX0_isPeg, .static yX0_isPeg, .code yX0_isPeg cX0_isPeg 1 (some .boolean)] ++ wsX00 ++ (pg_atX RX0 218 "java/util/NoSuchElementException" 13 prog_13_method_4_code "java/lang/RuntimeException" ["java/lang/Exception"]).filter goodWord)
def wsX0_pegInRing : List Cond := .code yX0_pegInRing cX0_pegInRing 2 (some .int) :: ([.fieldLink RX0 20 "Pegfield" "ring" "[I"] ++ wsX00)
def wsX0_isInRing : List Cond := .code yX0_isInRing cX0_isInRing 3 (some .boolean) :: ([.fieldLink RX0 23 "Pegfield" "ringSize" "I", .methodLink RX0 139 yX0_pegInRing, .instanceMethod yX0_pegInRing, .selects RX0 yX0_pegInRing yX0_pegInRing, .initialized RX0, .code yX0_pegInRing cX0_pegInRing 2 (some .int), .fieldLink RX0 20 "Pegfield" "ring" "[I"] ++ wsX00)
def wsX0_take_r1 : List Cond := [Cond.classLink RX0 59 "java/lang/IllegalStateException", Cond.initialized "java/lang/IllegalStateException", Cond.fieldLink RX0 9 "Pegfield" "standing" "[Z", Cond.methodLink RX0 31 yX0_requirePeg, Cond.static yX0_requirePeg, Cond.initialized RX0, Cond.code yX0_requirePeg cX0_requirePeg 1 none, Cond.classLink RX0 142 "java/lang/IndexOutOfBoundsException", Cond.initialized "java/lang/IndexOutOfBoundsException", Cond.methodLink RX0 64 yX0_isPeg, Cond.static yX0_isPeg, Cond.code yX0_isPeg cX0_isPeg 1 (some .boolean), Cond.methodLink RX0 53 yX0_requireStanding, Cond.instanceMethod yX0_requireStanding, Cond.selects RX0 yX0_requireStanding yX0_requireStanding, Cond.code yX0_requireStanding cX0_requireStanding 2 none, Cond.classLink RX0 214 "java/util/NoSuchElementException", Cond.initialized "java/util/NoSuchElementException", Cond.methodLink RX0 46 yX0_stands, Cond.instanceMethod yX0_stands, Cond.selects RX0 yX0_stands yX0_stands, Cond.code yX0_stands cX0_stands 2 (some .boolean), Cond.methodLink RX0 56 yX0_isInRing, Cond.instanceMethod yX0_isInRing]
def wsX0_take_r2 : List Cond := [Cond.selects RX0 yX0_isInRing yX0_isInRing, Cond.code yX0_isInRing cX0_isInRing 3 (some .boolean), Cond.fieldLink RX0 23 "Pegfield" "ringSize" "I", Cond.methodLink RX0 139 yX0_pegInRing, Cond.instanceMethod yX0_pegInRing, Cond.selects RX0 yX0_pegInRing yX0_pegInRing, Cond.code yX0_pegInRing cX0_pegInRing 2 (some .int), Cond.fieldLink RX0 20 "Pegfield" "ring" "[I"]
def wsX0_take : List Cond := .code yX0_take cX0_take 2 none :: ((wsX0_take_r1 ++ wsX0_take_r2) ++ wsX00 ++ (vx_atS RX0 63 "java/lang/IllegalStateException" ["java/lang/RuntimeException", "java/lang/Exception"]).filter goodWord ++ (vx_atS RX0 146 "java/lang/IndexOutOfBoundsException" ["java/lang/RuntimeException", "java/lang/Exception"]).filter goodWord ++ (pg_atX RX0 218 "java/util/NoSuchElementException" 13 prog_13_method_4_code "java/lang/RuntimeException" ["java/lang/Exception"]).filter goodWord)
def wsX0_across : List Cond := .code yX0_across cX0_across 2 (some .int) :: ([.fieldLink RX0 13 "Pegfield" "acrossOf" "[I", .methodLink RX0 64 yX0_isPeg, .static yX0_isPeg, .initialized RX0, .code yX0_isPeg cX0_isPeg 1 (some .boolean)] ++ wsX00)
def wsX0_up : List Cond := .code yX0_up cX0_up 2 (some .int) :: ([.fieldLink RX0 17 "Pegfield" "upOf" "[I", .methodLink RX0 64 yX0_isPeg, .static yX0_isPeg, .initialized RX0, .code yX0_isPeg cX0_isPeg 1 (some .boolean)] ++ wsX00)
def wsX0_step_r1 : List Cond := [Cond.classLink RX0 39 "java/lang/IllegalArgumentException", Cond.initialized "java/lang/IllegalArgumentException", Cond.methodLink RX0 31 yX0_requirePeg, Cond.static yX0_requirePeg, Cond.initialized RX0, Cond.code yX0_requirePeg cX0_requirePeg 1 none, Cond.classLink RX0 142 "java/lang/IndexOutOfBoundsException", Cond.initialized "java/lang/IndexOutOfBoundsException", Cond.methodLink RX0 64 yX0_isPeg, Cond.static yX0_isPeg, Cond.code yX0_isPeg cX0_isPeg 1 (some .boolean), Cond.methodLink RX0 53 yX0_requireStanding, Cond.instanceMethod yX0_requireStanding, Cond.selects RX0 yX0_requireStanding yX0_requireStanding, Cond.code yX0_requireStanding cX0_requireStanding 2 none, Cond.classLink RX0 214 "java/util/NoSuchElementException", Cond.initialized "java/util/NoSuchElementException", Cond.methodLink RX0 46 yX0_stands, Cond.instanceMethod yX0_stands, Cond.selects RX0 yX0_stands yX0_stands, Cond.code yX0_stands cX0_stands 2 (some .boolean), Cond.fieldLink RX0 9 "Pegfield" "standing" "[Z", Cond.methodLink RX0 69 yX0_across, Cond.instanceMethod yX0_across]
def wsX0_step_r2 : List Cond := [Cond.selects RX0 yX0_across yX0_across, Cond.code yX0_across cX0_across 2 (some .int), Cond.fieldLink RX0 13 "Pegfield" "acrossOf" "[I", Cond.methodLink RX0 73 yX0_up, Cond.instanceMethod yX0_up, Cond.selects RX0 yX0_up yX0_up, Cond.code yX0_up cX0_up 2 (some .int), Cond.fieldLink RX0 17 "Pegfield" "upOf" "[I", Cond.methodLink RX0 35 yX0_isPlace, Cond.static yX0_isPlace, Cond.code yX0_isPlace cX0_isPlace 1 (some .boolean), Cond.methodLink RX0 49 yX0_moveTo, Cond.instanceMethod yX0_moveTo, Cond.selects RX0 yX0_moveTo yX0_moveTo, Cond.code yX0_moveTo cX0_moveTo 4 none]
def wsX0_step : List Cond := .code yX0_step cX0_step 5 (some .boolean) :: ((wsX0_step_r1 ++ wsX0_step_r2) ++ wsX00 ++ (vx_atS RX0 43 "java/lang/IllegalArgumentException" ["java/lang/RuntimeException", "java/lang/Exception"]).filter goodWord ++ (vx_atS RX0 146 "java/lang/IndexOutOfBoundsException" ["java/lang/RuntimeException", "java/lang/Exception"]).filter goodWord ++ (pg_atX RX0 218 "java/util/NoSuchElementException" 13 prog_13_method_4_code "java/lang/RuntimeException" ["java/lang/Exception"]).filter goodWord)
def wsX0_isThere : List Cond := .code yX0_isThere cX0_isThere 2 (some .boolean) :: ([.methodLink RX0 31 yX0_requirePeg, .static yX0_requirePeg, .initialized RX0, .code yX0_requirePeg cX0_requirePeg 1 none, .classLink RX0 142 "java/lang/IndexOutOfBoundsException", .initialized "java/lang/IndexOutOfBoundsException", .methodLink RX0 64 yX0_isPeg, .static yX0_isPeg, .code yX0_isPeg cX0_isPeg 1 (some .boolean), .methodLink RX0 46 yX0_stands, .instanceMethod yX0_stands, .selects RX0 yX0_stands yX0_stands, .code yX0_stands cX0_stands 2 (some .boolean), .fieldLink RX0 9 "Pegfield" "standing" "[Z"] ++ wsX00 ++ (vx_atS RX0 146 "java/lang/IndexOutOfBoundsException" ["java/lang/RuntimeException", "java/lang/Exception"]).filter goodWord)
def wsX0_placeOf_r1 : List Cond := [Cond.methodLink RX0 31 yX0_requirePeg, Cond.static yX0_requirePeg, Cond.initialized RX0, Cond.code yX0_requirePeg cX0_requirePeg 1 none, Cond.classLink RX0 142 "java/lang/IndexOutOfBoundsException", Cond.initialized "java/lang/IndexOutOfBoundsException", Cond.methodLink RX0 64 yX0_isPeg, Cond.static yX0_isPeg, Cond.code yX0_isPeg cX0_isPeg 1 (some .boolean), Cond.methodLink RX0 53 yX0_requireStanding, Cond.instanceMethod yX0_requireStanding, Cond.selects RX0 yX0_requireStanding yX0_requireStanding, Cond.code yX0_requireStanding cX0_requireStanding 2 none, Cond.classLink RX0 214 "java/util/NoSuchElementException", Cond.initialized "java/util/NoSuchElementException", Cond.methodLink RX0 46 yX0_stands, Cond.instanceMethod yX0_stands, Cond.selects RX0 yX0_stands yX0_stands, Cond.code yX0_stands cX0_stands 2 (some .boolean), Cond.fieldLink RX0 9 "Pegfield" "standing" "[Z", Cond.methodLink RX0 73 yX0_up, Cond.instanceMethod yX0_up, Cond.selects RX0 yX0_up yX0_up, Cond.code yX0_up cX0_up 2 (some .int)]
def wsX0_placeOf_r2 : List Cond := [Cond.fieldLink RX0 17 "Pegfield" "upOf" "[I", Cond.methodLink RX0 69 yX0_across, Cond.instanceMethod yX0_across, Cond.selects RX0 yX0_across yX0_across, Cond.code yX0_across cX0_across 2 (some .int), Cond.fieldLink RX0 13 "Pegfield" "acrossOf" "[I"]
def wsX0_placeOf : List Cond := .code yX0_placeOf cX0_placeOf 2 (some .int) :: ((wsX0_placeOf_r1 ++ wsX0_placeOf_r2) ++ wsX00 ++ (vx_atS RX0 146 "java/lang/IndexOutOfBoundsException" ["java/lang/RuntimeException", "java/lang/Exception"]).filter goodWord ++ (pg_atX RX0 218 "java/util/NoSuchElementException" 13 prog_13_method_4_code "java/lang/RuntimeException" ["java/lang/Exception"]).filter goodWord)
def wsX0_count : List Cond := .code yX0_count cX0_count 3 (some .int) :: ([.methodLink RX0 46 yX0_stands, .instanceMethod yX0_stands, .selects RX0 yX0_stands yX0_stands, .initialized RX0, .code yX0_stands cX0_stands 2 (some .boolean), .fieldLink RX0 9 "Pegfield" "standing" "[Z", .methodLink RX0 64 yX0_isPeg, .static yX0_isPeg, .code yX0_isPeg cX0_isPeg 1 (some .boolean)] ++ wsX00)
def wsX0_widen : List Cond := .code yX0_widen cX0_widen 3 (some .boolean) :: ([.fieldLink RX0 27 "Pegfield" "wide" "Z"] ++ wsX00)
def wsX0_requireTwo : List Cond := .code yX0_requireTwo cX0_requireTwo 3 none :: ([.methodLink RX0 31 yX0_requirePeg, .static yX0_requirePeg, .initialized RX0, .code yX0_requirePeg cX0_requirePeg 1 none, .classLink RX0 142 "java/lang/IndexOutOfBoundsException", .initialized "java/lang/IndexOutOfBoundsException", .methodLink RX0 64 yX0_isPeg, .static yX0_isPeg, .code yX0_isPeg cX0_isPeg 1 (some .boolean), .methodLink RX0 53 yX0_requireStanding, .instanceMethod yX0_requireStanding, .selects RX0 yX0_requireStanding yX0_requireStanding, .code yX0_requireStanding cX0_requireStanding 2 none, .classLink RX0 214 "java/util/NoSuchElementException", .initialized "java/util/NoSuchElementException", .methodLink RX0 46 yX0_stands, .instanceMethod yX0_stands, .selects RX0 yX0_stands yX0_stands, .code yX0_stands cX0_stands 2 (some .boolean), .fieldLink RX0 9 "Pegfield" "standing" "[Z"] ++ wsX00 ++ (vx_atS RX0 146 "java/lang/IndexOutOfBoundsException" ["java/lang/RuntimeException", "java/lang/Exception"]).filter goodWord ++ (pg_atX RX0 218 "java/util/NoSuchElementException" 13 prog_13_method_4_code "java/lang/RuntimeException" ["java/lang/Exception"]).filter goodWord)
def wsX0_squareSum : List Cond := .code yX0_squareSum cX0_squareSum 4 (some .int) :: ([])
def wsX0_rootDigits : List Cond := .code yX0_rootDigits cX0_rootDigits 9 (some .long) :: ([])
def wsX0_grainsOfRoot : List Cond := .code yX0_grainsOfRoot cX0_grainsOfRoot 1 (some .int) :: ([.methodLink RX0 221 yX0_rootDigits, .static yX0_rootDigits, .initialized RX0, .code yX0_rootDigits cX0_rootDigits 9 (some .long)])
def wsX0_stretchGrains : List Cond := .code yX0_stretchGrains cX0_stretchGrains 3 (some .int) :: ([.fieldLink RX0 27 "Pegfield" "wide" "Z", .methodLink RX0 69 yX0_across, .instanceMethod yX0_across, .selects RX0 yX0_across yX0_across, .initialized RX0, .code yX0_across cX0_across 2 (some .int), .fieldLink RX0 13 "Pegfield" "acrossOf" "[I", .methodLink RX0 64 yX0_isPeg, .static yX0_isPeg, .code yX0_isPeg cX0_isPeg 1 (some .boolean), .methodLink RX0 73 yX0_up, .instanceMethod yX0_up, .selects RX0 yX0_up yX0_up, .code yX0_up cX0_up 2 (some .int), .fieldLink RX0 17 "Pegfield" "upOf" "[I", .methodLink RX0 92 yX0_squareSum, .static yX0_squareSum, .code yX0_squareSum cX0_squareSum 4 (some .int), .methodLink RX0 119 yX0_grainsOfRoot, .static yX0_grainsOfRoot, .code yX0_grainsOfRoot cX0_grainsOfRoot 1 (some .int), .methodLink RX0 221 yX0_rootDigits, .static yX0_rootDigits, .code yX0_rootDigits cX0_rootDigits 9 (some .long)] ++ wsX00)
def wsX0_stretch_r1 : List Cond := [Cond.methodLink RX0 76 yX0_requireTwo, Cond.instanceMethod yX0_requireTwo, Cond.selects RX0 yX0_requireTwo yX0_requireTwo, Cond.initialized RX0, Cond.code yX0_requireTwo cX0_requireTwo 3 none, Cond.methodLink RX0 31 yX0_requirePeg, Cond.static yX0_requirePeg, Cond.code yX0_requirePeg cX0_requirePeg 1 none, Cond.classLink RX0 142 "java/lang/IndexOutOfBoundsException", Cond.initialized "java/lang/IndexOutOfBoundsException", Cond.methodLink RX0 64 yX0_isPeg, Cond.static yX0_isPeg, Cond.code yX0_isPeg cX0_isPeg 1 (some .boolean), Cond.methodLink RX0 53 yX0_requireStanding, Cond.instanceMethod yX0_requireStanding, Cond.selects RX0 yX0_requireStanding yX0_requireStanding, Cond.code yX0_requireStanding cX0_requireStanding 2 none, Cond.classLink RX0 214 "java/util/NoSuchElementException", Cond.initialized "java/util/NoSuchElementException", Cond.methodLink RX0 46 yX0_stands, Cond.instanceMethod yX0_stands, Cond.selects RX0 yX0_stands yX0_stands, Cond.code yX0_stands cX0_stands 2 (some .boolean), Cond.fieldLink RX0 9 "Pegfield" "standing" "[Z"]
def wsX0_stretch_r2 : List Cond := [Cond.methodLink RX0 80 yX0_stretchGrains, Cond.instanceMethod yX0_stretchGrains, Cond.selects RX0 yX0_stretchGrains yX0_stretchGrains, Cond.code yX0_stretchGrains cX0_stretchGrains 3 (some .int), Cond.fieldLink RX0 27 "Pegfield" "wide" "Z", Cond.methodLink RX0 69 yX0_across, Cond.instanceMethod yX0_across, Cond.selects RX0 yX0_across yX0_across, Cond.code yX0_across cX0_across 2 (some .int), Cond.fieldLink RX0 13 "Pegfield" "acrossOf" "[I", Cond.methodLink RX0 73 yX0_up, Cond.instanceMethod yX0_up, Cond.selects RX0 yX0_up yX0_up, Cond.code yX0_up cX0_up 2 (some .int), Cond.fieldLink RX0 17 "Pegfield" "upOf" "[I", Cond.methodLink RX0 92 yX0_squareSum, Cond.static yX0_squareSum, Cond.code yX0_squareSum cX0_squareSum 4 (some .int), Cond.methodLink RX0 119 yX0_grainsOfRoot, Cond.static yX0_grainsOfRoot, Cond.code yX0_grainsOfRoot cX0_grainsOfRoot 1 (some .int), Cond.methodLink RX0 221 yX0_rootDigits, Cond.static yX0_rootDigits, Cond.code yX0_rootDigits cX0_rootDigits 9 (some .long)]
def wsX0_stretch : List Cond := .code yX0_stretch cX0_stretch 3 (some .int) :: ((wsX0_stretch_r1 ++ wsX0_stretch_r2) ++ wsX00 ++ (vx_atS RX0 146 "java/lang/IndexOutOfBoundsException" ["java/lang/RuntimeException", "java/lang/Exception"]).filter goodWord ++ (pg_atX RX0 218 "java/util/NoSuchElementException" 13 prog_13_method_4_code "java/lang/RuntimeException" ["java/lang/Exception"]).filter goodWord)
def wsX0_highestPair : List Cond := .code yX0_highestPair cX0_highestPair 2 (some .int) :: ([])
def wsX0_bitsOfRoot : List Cond := .code yX0_bitsOfRoot cX0_bitsOfRoot 6 (some .long) :: ([.constantLong RX0 228 (4503599627370496), .methodLink RX0 225 yX0_highestPair, .static yX0_highestPair, .initialized RX0, .code yX0_highestPair cX0_highestPair 2 (some .int), .methodLink RX0 221 yX0_rootDigits, .static yX0_rootDigits, .code yX0_rootDigits cX0_rootDigits 9 (some .long)])
def wsX0_hypotenuseBits : List Cond := .code yX0_hypotenuseBits cX0_hypotenuseBits 3 (some .long) :: ([.methodLink RX0 92 yX0_squareSum, .static yX0_squareSum, .initialized RX0, .code yX0_squareSum cX0_squareSum 4 (some .int), .methodLink RX0 122 yX0_bitsOfRoot, .static yX0_bitsOfRoot, .code yX0_bitsOfRoot cX0_bitsOfRoot 6 (some .long), .constantLong RX0 228 (4503599627370496), .methodLink RX0 225 yX0_highestPair, .static yX0_highestPair, .code yX0_highestPair cX0_highestPair 2 (some .int), .methodLink RX0 221 yX0_rootDigits, .static yX0_rootDigits, .code yX0_rootDigits cX0_rootDigits 9 (some .long)])
def wsX0_isSteady_r1 : List Cond := [Cond.fieldLink RX0 27 "Pegfield" "wide" "Z", Cond.methodLink RX0 76 yX0_requireTwo, Cond.instanceMethod yX0_requireTwo, Cond.selects RX0 yX0_requireTwo yX0_requireTwo, Cond.initialized RX0, Cond.code yX0_requireTwo cX0_requireTwo 3 none, Cond.methodLink RX0 31 yX0_requirePeg, Cond.static yX0_requirePeg, Cond.code yX0_requirePeg cX0_requirePeg 1 none, Cond.classLink RX0 142 "java/lang/IndexOutOfBoundsException", Cond.initialized "java/lang/IndexOutOfBoundsException", Cond.methodLink RX0 64 yX0_isPeg, Cond.static yX0_isPeg, Cond.code yX0_isPeg cX0_isPeg 1 (some .boolean), Cond.methodLink RX0 53 yX0_requireStanding, Cond.instanceMethod yX0_requireStanding, Cond.selects RX0 yX0_requireStanding yX0_requireStanding, Cond.code yX0_requireStanding cX0_requireStanding 2 none, Cond.classLink RX0 214 "java/util/NoSuchElementException", Cond.initialized "java/util/NoSuchElementException", Cond.methodLink RX0 46 yX0_stands, Cond.instanceMethod yX0_stands, Cond.selects RX0 yX0_stands yX0_stands, Cond.code yX0_stands cX0_stands 2 (some .boolean)]
def wsX0_isSteady_r2 : List Cond := [Cond.fieldLink RX0 9 "Pegfield" "standing" "[Z", Cond.methodLink RX0 69 yX0_across, Cond.instanceMethod yX0_across, Cond.selects RX0 yX0_across yX0_across, Cond.code yX0_across cX0_across 2 (some .int), Cond.fieldLink RX0 13 "Pegfield" "acrossOf" "[I", Cond.methodLink RX0 73 yX0_up, Cond.instanceMethod yX0_up, Cond.selects RX0 yX0_up yX0_up, Cond.code yX0_up cX0_up 2 (some .int), Cond.fieldLink RX0 17 "Pegfield" "upOf" "[I", Cond.methodLink RX0 84 yX0_hypotenuseBits, Cond.static yX0_hypotenuseBits, Cond.code yX0_hypotenuseBits cX0_hypotenuseBits 3 (some .long), Cond.methodLink RX0 92 yX0_squareSum, Cond.static yX0_squareSum, Cond.code yX0_squareSum cX0_squareSum 4 (some .int), Cond.methodLink RX0 122 yX0_bitsOfRoot, Cond.static yX0_bitsOfRoot, Cond.code yX0_bitsOfRoot cX0_bitsOfRoot 6 (some .long), Cond.constantLong RX0 228 (4503599627370496), Cond.methodLink RX0 225 yX0_highestPair, Cond.static yX0_highestPair, Cond.code yX0_highestPair cX0_highestPair 2 (some .int)]
def wsX0_isSteady_r3 : List Cond := [Cond.methodLink RX0 221 yX0_rootDigits, Cond.static yX0_rootDigits, Cond.code yX0_rootDigits cX0_rootDigits 9 (some .long)]
def wsX0_isSteady : List Cond := .code yX0_isSteady cX0_isSteady 10 (some .boolean) :: ((wsX0_isSteady_r1 ++ (wsX0_isSteady_r2 ++ wsX0_isSteady_r3)) ++ wsX00 ++ (vx_atS RX0 146 "java/lang/IndexOutOfBoundsException" ["java/lang/RuntimeException", "java/lang/Exception"]).filter goodWord ++ (pg_atX RX0 218 "java/util/NoSuchElementException" 13 prog_13_method_4_code "java/lang/RuntimeException" ["java/lang/Exception"]).filter goodWord)
def wsX0_twice : List Cond := .code yX0_twice cX0_twice 2 (some .long) :: ([.constantLong RX0 228 (4503599627370496)])
def wsX0_isDoubled_r1 : List Cond := [Cond.methodLink RX0 76 yX0_requireTwo, Cond.instanceMethod yX0_requireTwo, Cond.selects RX0 yX0_requireTwo yX0_requireTwo, Cond.initialized RX0, Cond.code yX0_requireTwo cX0_requireTwo 3 none, Cond.methodLink RX0 31 yX0_requirePeg, Cond.static yX0_requirePeg, Cond.code yX0_requirePeg cX0_requirePeg 1 none, Cond.classLink RX0 142 "java/lang/IndexOutOfBoundsException", Cond.initialized "java/lang/IndexOutOfBoundsException", Cond.methodLink RX0 64 yX0_isPeg, Cond.static yX0_isPeg, Cond.code yX0_isPeg cX0_isPeg 1 (some .boolean), Cond.methodLink RX0 53 yX0_requireStanding, Cond.instanceMethod yX0_requireStanding, Cond.selects RX0 yX0_requireStanding yX0_requireStanding, Cond.code yX0_requireStanding cX0_requireStanding 2 none, Cond.classLink RX0 214 "java/util/NoSuchElementException", Cond.initialized "java/util/NoSuchElementException", Cond.methodLink RX0 46 yX0_stands, Cond.instanceMethod yX0_stands, Cond.selects RX0 yX0_stands yX0_stands, Cond.code yX0_stands cX0_stands 2 (some .boolean), Cond.fieldLink RX0 9 "Pegfield" "standing" "[Z"]
def wsX0_isDoubled_r2 : List Cond := [Cond.methodLink RX0 69 yX0_across, Cond.instanceMethod yX0_across, Cond.selects RX0 yX0_across yX0_across, Cond.code yX0_across cX0_across 2 (some .int), Cond.fieldLink RX0 13 "Pegfield" "acrossOf" "[I", Cond.methodLink RX0 73 yX0_up, Cond.instanceMethod yX0_up, Cond.selects RX0 yX0_up yX0_up, Cond.code yX0_up cX0_up 2 (some .int), Cond.fieldLink RX0 17 "Pegfield" "upOf" "[I", Cond.methodLink RX0 84 yX0_hypotenuseBits, Cond.static yX0_hypotenuseBits, Cond.code yX0_hypotenuseBits cX0_hypotenuseBits 3 (some .long), Cond.methodLink RX0 92 yX0_squareSum, Cond.static yX0_squareSum, Cond.code yX0_squareSum cX0_squareSum 4 (some .int), Cond.methodLink RX0 122 yX0_bitsOfRoot, Cond.static yX0_bitsOfRoot, Cond.code yX0_bitsOfRoot cX0_bitsOfRoot 6 (some .long), Cond.constantLong RX0 228 (4503599627370496), Cond.methodLink RX0 225 yX0_highestPair, Cond.static yX0_highestPair, Cond.code yX0_highestPair cX0_highestPair 2 (some .int), Cond.methodLink RX0 221 yX0_rootDigits]
def wsX0_isDoubled_r3 : List Cond := [Cond.static yX0_rootDigits, Cond.code yX0_rootDigits cX0_rootDigits 9 (some .long), Cond.methodLink RX0 88 yX0_twice, Cond.static yX0_twice, Cond.code yX0_twice cX0_twice 2 (some .long)]
def wsX0_isDoubled : List Cond := .code yX0_isDoubled cX0_isDoubled 5 (some .boolean) :: ((wsX0_isDoubled_r1 ++ (wsX0_isDoubled_r2 ++ wsX0_isDoubled_r3)) ++ wsX00 ++ (vx_atS RX0 146 "java/lang/IndexOutOfBoundsException" ["java/lang/RuntimeException", "java/lang/Exception"]).filter goodWord ++ (pg_atX RX0 218 "java/util/NoSuchElementException" 13 prog_13_method_4_code "java/lang/RuntimeException" ["java/lang/Exception"]).filter goodWord)
def wsX0_unitsOf : List Cond := .code yX0_unitsOf cX0_unitsOf 2 (some .long) :: ([.constantLong RX0 230 (4503599627370495), .constantLong RX0 228 (4503599627370496)])
def wsX0_placesAfterPoint : List Cond := .code yX0_placesAfterPoint cX0_placesAfterPoint 2 (some .int) :: ([])
def wsX0_compareSquare : List Cond := .code yX0_compareSquare cX0_compareSquare 17 (some .int) :: ([.constantLong RX0 232 (134217727), .constantLong RX0 133 (2), .constantLong RX0 234 (18014398509481983)])
def wsX0_isClose_r1 : List Cond := [Cond.fieldLink RX0 27 "Pegfield" "wide" "Z", Cond.methodLink RX0 76 yX0_requireTwo, Cond.instanceMethod yX0_requireTwo, Cond.selects RX0 yX0_requireTwo yX0_requireTwo, Cond.initialized RX0, Cond.code yX0_requireTwo cX0_requireTwo 3 none, Cond.methodLink RX0 31 yX0_requirePeg, Cond.static yX0_requirePeg, Cond.code yX0_requirePeg cX0_requirePeg 1 none, Cond.classLink RX0 142 "java/lang/IndexOutOfBoundsException", Cond.initialized "java/lang/IndexOutOfBoundsException", Cond.methodLink RX0 64 yX0_isPeg, Cond.static yX0_isPeg, Cond.code yX0_isPeg cX0_isPeg 1 (some .boolean), Cond.methodLink RX0 53 yX0_requireStanding, Cond.instanceMethod yX0_requireStanding, Cond.selects RX0 yX0_requireStanding yX0_requireStanding, Cond.code yX0_requireStanding cX0_requireStanding 2 none, Cond.classLink RX0 214 "java/util/NoSuchElementException", Cond.initialized "java/util/NoSuchElementException", Cond.methodLink RX0 46 yX0_stands, Cond.instanceMethod yX0_stands, Cond.selects RX0 yX0_stands yX0_stands, Cond.code yX0_stands cX0_stands 2 (some .boolean)]
def wsX0_isClose_r2 : List Cond := [Cond.fieldLink RX0 9 "Pegfield" "standing" "[Z", Cond.methodLink RX0 69 yX0_across, Cond.instanceMethod yX0_across, Cond.selects RX0 yX0_across yX0_across, Cond.code yX0_across cX0_across 2 (some .int), Cond.fieldLink RX0 13 "Pegfield" "acrossOf" "[I", Cond.methodLink RX0 73 yX0_up, Cond.instanceMethod yX0_up, Cond.selects RX0 yX0_up yX0_up, Cond.code yX0_up cX0_up 2 (some .int), Cond.fieldLink RX0 17 "Pegfield" "upOf" "[I", Cond.methodLink RX0 84 yX0_hypotenuseBits, Cond.static yX0_hypotenuseBits, Cond.code yX0_hypotenuseBits cX0_hypotenuseBits 3 (some .long), Cond.methodLink RX0 92 yX0_squareSum, Cond.static yX0_squareSum, Cond.code yX0_squareSum cX0_squareSum 4 (some .int), Cond.methodLink RX0 122 yX0_bitsOfRoot, Cond.static yX0_bitsOfRoot, Cond.code yX0_bitsOfRoot cX0_bitsOfRoot 6 (some .long), Cond.constantLong RX0 228 (4503599627370496), Cond.methodLink RX0 225 yX0_highestPair, Cond.static yX0_highestPair, Cond.code yX0_highestPair cX0_highestPair 2 (some .int)]
def wsX0_isClose_r3 : List Cond := [Cond.methodLink RX0 221 yX0_rootDigits, Cond.static yX0_rootDigits, Cond.code yX0_rootDigits cX0_rootDigits 9 (some .long), Cond.methodLink RX0 96 yX0_unitsOf, Cond.static yX0_unitsOf, Cond.code yX0_unitsOf cX0_unitsOf 2 (some .long), Cond.constantLong RX0 230 (4503599627370495), Cond.methodLink RX0 99 yX0_placesAfterPoint, Cond.static yX0_placesAfterPoint, Cond.code yX0_placesAfterPoint cX0_placesAfterPoint 2 (some .int), Cond.methodLink RX0 103 yX0_compareSquare, Cond.static yX0_compareSquare, Cond.code yX0_compareSquare cX0_compareSquare 17 (some .int), Cond.constantLong RX0 232 (134217727), Cond.constantLong RX0 133 (2), Cond.constantLong RX0 234 (18014398509481983)]
def wsX0_isClose : List Cond := .code yX0_isClose cX0_isClose 11 (some .boolean) :: ((wsX0_isClose_r1 ++ (wsX0_isClose_r2 ++ wsX0_isClose_r3)) ++ wsX00 ++ (vx_atS RX0 146 "java/lang/IndexOutOfBoundsException" ["java/lang/RuntimeException", "java/lang/Exception"]).filter goodWord ++ (pg_atX RX0 218 "java/util/NoSuchElementException" 13 prog_13_method_4_code "java/lang/RuntimeException" ["java/lang/Exception"]).filter goodWord)
def wsX0_isStraight_r1 : List Cond := [Cond.methodLink RX0 31 yX0_requirePeg, Cond.static yX0_requirePeg, Cond.initialized RX0, Cond.code yX0_requirePeg cX0_requirePeg 1 none, Cond.classLink RX0 142 "java/lang/IndexOutOfBoundsException", Cond.initialized "java/lang/IndexOutOfBoundsException", Cond.methodLink RX0 64 yX0_isPeg, Cond.static yX0_isPeg, Cond.code yX0_isPeg cX0_isPeg 1 (some .boolean), Cond.methodLink RX0 53 yX0_requireStanding, Cond.instanceMethod yX0_requireStanding, Cond.selects RX0 yX0_requireStanding yX0_requireStanding, Cond.code yX0_requireStanding cX0_requireStanding 2 none, Cond.classLink RX0 214 "java/util/NoSuchElementException", Cond.initialized "java/util/NoSuchElementException", Cond.methodLink RX0 46 yX0_stands, Cond.instanceMethod yX0_stands, Cond.selects RX0 yX0_stands yX0_stands, Cond.code yX0_stands cX0_stands 2 (some .boolean), Cond.fieldLink RX0 9 "Pegfield" "standing" "[Z", Cond.methodLink RX0 80 yX0_stretchGrains, Cond.instanceMethod yX0_stretchGrains, Cond.selects RX0 yX0_stretchGrains yX0_stretchGrains, Cond.code yX0_stretchGrains cX0_stretchGrains 3 (some .int)]
def wsX0_isStraight_r2 : List Cond := [Cond.fieldLink RX0 27 "Pegfield" "wide" "Z", Cond.methodLink RX0 69 yX0_across, Cond.instanceMethod yX0_across, Cond.selects RX0 yX0_across yX0_across, Cond.code yX0_across cX0_across 2 (some .int), Cond.fieldLink RX0 13 "Pegfield" "acrossOf" "[I", Cond.methodLink RX0 73 yX0_up, Cond.instanceMethod yX0_up, Cond.selects RX0 yX0_up yX0_up, Cond.code yX0_up cX0_up 2 (some .int), Cond.fieldLink RX0 17 "Pegfield" "upOf" "[I", Cond.methodLink RX0 92 yX0_squareSum, Cond.static yX0_squareSum, Cond.code yX0_squareSum cX0_squareSum 4 (some .int), Cond.methodLink RX0 119 yX0_grainsOfRoot, Cond.static yX0_grainsOfRoot, Cond.code yX0_grainsOfRoot cX0_grainsOfRoot 1 (some .int), Cond.methodLink RX0 221 yX0_rootDigits, Cond.static yX0_rootDigits, Cond.code yX0_rootDigits cX0_rootDigits 9 (some .long)]
def wsX0_isStraight : List Cond := .code yX0_isStraight cX0_isStraight 4 (some .boolean) :: ((wsX0_isStraight_r1 ++ wsX0_isStraight_r2) ++ wsX00 ++ (vx_atS RX0 146 "java/lang/IndexOutOfBoundsException" ["java/lang/RuntimeException", "java/lang/Exception"]).filter goodWord ++ (pg_atX RX0 218 "java/util/NoSuchElementException" 13 prog_13_method_4_code "java/lang/RuntimeException" ["java/lang/Exception"]).filter goodWord)
def wsX0_nearestOther_r1 : List Cond := [Cond.methodLink RX0 46 yX0_stands, Cond.instanceMethod yX0_stands, Cond.selects RX0 yX0_stands yX0_stands, Cond.initialized RX0, Cond.code yX0_stands cX0_stands 2 (some .boolean), Cond.fieldLink RX0 9 "Pegfield" "standing" "[Z", Cond.methodLink RX0 64 yX0_isPeg, Cond.static yX0_isPeg, Cond.code yX0_isPeg cX0_isPeg 1 (some .boolean), Cond.methodLink RX0 80 yX0_stretchGrains, Cond.instanceMethod yX0_stretchGrains, Cond.selects RX0 yX0_stretchGrains yX0_stretchGrains, Cond.code yX0_stretchGrains cX0_stretchGrains 3 (some .int), Cond.fieldLink RX0 27 "Pegfield" "wide" "Z", Cond.methodLink RX0 69 yX0_across, Cond.instanceMethod yX0_across, Cond.selects RX0 yX0_across yX0_across, Cond.code yX0_across cX0_across 2 (some .int), Cond.fieldLink RX0 13 "Pegfield" "acrossOf" "[I", Cond.methodLink RX0 73 yX0_up, Cond.instanceMethod yX0_up, Cond.selects RX0 yX0_up yX0_up, Cond.code yX0_up cX0_up 2 (some .int), Cond.fieldLink RX0 17 "Pegfield" "upOf" "[I"]
def wsX0_nearestOther_r2 : List Cond := [Cond.methodLink RX0 92 yX0_squareSum, Cond.static yX0_squareSum, Cond.code yX0_squareSum cX0_squareSum 4 (some .int), Cond.methodLink RX0 119 yX0_grainsOfRoot, Cond.static yX0_grainsOfRoot, Cond.code yX0_grainsOfRoot cX0_grainsOfRoot 1 (some .int), Cond.methodLink RX0 221 yX0_rootDigits, Cond.static yX0_rootDigits, Cond.code yX0_rootDigits cX0_rootDigits 9 (some .long)]
def wsX0_nearestOther : List Cond := .code yX0_nearestOther cX0_nearestOther 6 (some .int) :: ((wsX0_nearestOther_r1 ++ wsX0_nearestOther_r2) ++ wsX00)
def wsX0_nearest_r1 : List Cond := [Cond.classLink RX0 59 "java/lang/IllegalStateException", Cond.initialized "java/lang/IllegalStateException", Cond.methodLink RX0 31 yX0_requirePeg, Cond.static yX0_requirePeg, Cond.initialized RX0, Cond.code yX0_requirePeg cX0_requirePeg 1 none, Cond.classLink RX0 142 "java/lang/IndexOutOfBoundsException", Cond.initialized "java/lang/IndexOutOfBoundsException", Cond.methodLink RX0 64 yX0_isPeg, Cond.static yX0_isPeg, Cond.code yX0_isPeg cX0_isPeg 1 (some .boolean), Cond.methodLink RX0 53 yX0_requireStanding, Cond.instanceMethod yX0_requireStanding, Cond.selects RX0 yX0_requireStanding yX0_requireStanding, Cond.code yX0_requireStanding cX0_requireStanding 2 none, Cond.classLink RX0 214 "java/util/NoSuchElementException", Cond.initialized "java/util/NoSuchElementException", Cond.methodLink RX0 46 yX0_stands, Cond.instanceMethod yX0_stands, Cond.selects RX0 yX0_stands yX0_stands, Cond.code yX0_stands cX0_stands 2 (some .boolean), Cond.fieldLink RX0 9 "Pegfield" "standing" "[Z", Cond.methodLink RX0 107 yX0_nearestOther, Cond.instanceMethod yX0_nearestOther]
def wsX0_nearest_r2 : List Cond := [Cond.selects RX0 yX0_nearestOther yX0_nearestOther, Cond.code yX0_nearestOther cX0_nearestOther 6 (some .int), Cond.methodLink RX0 80 yX0_stretchGrains, Cond.instanceMethod yX0_stretchGrains, Cond.selects RX0 yX0_stretchGrains yX0_stretchGrains, Cond.code yX0_stretchGrains cX0_stretchGrains 3 (some .int), Cond.fieldLink RX0 27 "Pegfield" "wide" "Z", Cond.methodLink RX0 69 yX0_across, Cond.instanceMethod yX0_across, Cond.selects RX0 yX0_across yX0_across, Cond.code yX0_across cX0_across 2 (some .int), Cond.fieldLink RX0 13 "Pegfield" "acrossOf" "[I", Cond.methodLink RX0 73 yX0_up, Cond.instanceMethod yX0_up, Cond.selects RX0 yX0_up yX0_up, Cond.code yX0_up cX0_up 2 (some .int), Cond.fieldLink RX0 17 "Pegfield" "upOf" "[I", Cond.methodLink RX0 92 yX0_squareSum, Cond.static yX0_squareSum, Cond.code yX0_squareSum cX0_squareSum 4 (some .int), Cond.methodLink RX0 119 yX0_grainsOfRoot, Cond.static yX0_grainsOfRoot, Cond.code yX0_grainsOfRoot cX0_grainsOfRoot 1 (some .int), Cond.methodLink RX0 221 yX0_rootDigits]
def wsX0_nearest_r3 : List Cond := [Cond.static yX0_rootDigits, Cond.code yX0_rootDigits cX0_rootDigits 9 (some .long)]
def wsX0_nearest : List Cond := .code yX0_nearest cX0_nearest 3 (some .int) :: ((wsX0_nearest_r1 ++ (wsX0_nearest_r2 ++ wsX0_nearest_r3)) ++ wsX00 ++ (vx_atS RX0 63 "java/lang/IllegalStateException" ["java/lang/RuntimeException", "java/lang/Exception"]).filter goodWord ++ (vx_atS RX0 146 "java/lang/IndexOutOfBoundsException" ["java/lang/RuntimeException", "java/lang/Exception"]).filter goodWord ++ (pg_atX RX0 218 "java/util/NoSuchElementException" 13 prog_13_method_4_code "java/lang/RuntimeException" ["java/lang/Exception"]).filter goodWord)
def wsX0_rank_r1 : List Cond := [Cond.methodLink RX0 76 yX0_requireTwo, Cond.instanceMethod yX0_requireTwo, Cond.selects RX0 yX0_requireTwo yX0_requireTwo, Cond.initialized RX0, Cond.code yX0_requireTwo cX0_requireTwo 3 none, Cond.methodLink RX0 31 yX0_requirePeg, Cond.static yX0_requirePeg, Cond.code yX0_requirePeg cX0_requirePeg 1 none, Cond.classLink RX0 142 "java/lang/IndexOutOfBoundsException", Cond.initialized "java/lang/IndexOutOfBoundsException", Cond.methodLink RX0 64 yX0_isPeg, Cond.static yX0_isPeg, Cond.code yX0_isPeg cX0_isPeg 1 (some .boolean), Cond.methodLink RX0 53 yX0_requireStanding, Cond.instanceMethod yX0_requireStanding, Cond.selects RX0 yX0_requireStanding yX0_requireStanding, Cond.code yX0_requireStanding cX0_requireStanding 2 none, Cond.classLink RX0 214 "java/util/NoSuchElementException", Cond.initialized "java/util/NoSuchElementException", Cond.methodLink RX0 46 yX0_stands, Cond.instanceMethod yX0_stands, Cond.selects RX0 yX0_stands yX0_stands, Cond.code yX0_stands cX0_stands 2 (some .boolean), Cond.fieldLink RX0 9 "Pegfield" "standing" "[Z"]
def wsX0_rank_r2 : List Cond := [Cond.methodLink RX0 80 yX0_stretchGrains, Cond.instanceMethod yX0_stretchGrains, Cond.selects RX0 yX0_stretchGrains yX0_stretchGrains, Cond.code yX0_stretchGrains cX0_stretchGrains 3 (some .int), Cond.fieldLink RX0 27 "Pegfield" "wide" "Z", Cond.methodLink RX0 69 yX0_across, Cond.instanceMethod yX0_across, Cond.selects RX0 yX0_across yX0_across, Cond.code yX0_across cX0_across 2 (some .int), Cond.fieldLink RX0 13 "Pegfield" "acrossOf" "[I", Cond.methodLink RX0 73 yX0_up, Cond.instanceMethod yX0_up, Cond.selects RX0 yX0_up yX0_up, Cond.code yX0_up cX0_up 2 (some .int), Cond.fieldLink RX0 17 "Pegfield" "upOf" "[I", Cond.methodLink RX0 92 yX0_squareSum, Cond.static yX0_squareSum, Cond.code yX0_squareSum cX0_squareSum 4 (some .int), Cond.methodLink RX0 119 yX0_grainsOfRoot, Cond.static yX0_grainsOfRoot, Cond.code yX0_grainsOfRoot cX0_grainsOfRoot 1 (some .int), Cond.methodLink RX0 221 yX0_rootDigits, Cond.static yX0_rootDigits, Cond.code yX0_rootDigits cX0_rootDigits 9 (some .long)]
def wsX0_rank : List Cond := .code yX0_rank cX0_rank 7 (some .int) :: ((wsX0_rank_r1 ++ wsX0_rank_r2) ++ wsX00 ++ (vx_atS RX0 146 "java/lang/IndexOutOfBoundsException" ["java/lang/RuntimeException", "java/lang/Exception"]).filter goodWord ++ (pg_atX RX0 218 "java/util/NoSuchElementException" 13 prog_13_method_4_code "java/lang/RuntimeException" ["java/lang/Exception"]).filter goodWord)
def wsX0_isNumber : List Cond := .code yX0_isNumber cX0_isNumber 1 (some .boolean) :: ([])
def wsX0_requireNumber : List Cond := .code yX0_requireNumber cX0_requireNumber 1 none :: ([.classLink RX0 39 "java/lang/IllegalArgumentException", .initialized "java/lang/IllegalArgumentException", .methodLink RX0 159 yX0_isNumber, .static yX0_isNumber, .initialized RX0, .code yX0_isNumber cX0_isNumber 1 (some .boolean)] ++ (vx_atS RX0 43 "java/lang/IllegalArgumentException" ["java/lang/RuntimeException", "java/lang/Exception"]).filter goodWord)
def wsX0_sixteenthsOf : List Cond := .code yX0_sixteenthsOf cX0_sixteenthsOf 2 (some .int) :: ([])
def wsX0_isIn_r1 : List Cond := [Cond.methodLink RX0 76 yX0_requireTwo, Cond.instanceMethod yX0_requireTwo, Cond.selects RX0 yX0_requireTwo yX0_requireTwo, Cond.initialized RX0, Cond.code yX0_requireTwo cX0_requireTwo 3 none, Cond.methodLink RX0 31 yX0_requirePeg, Cond.static yX0_requirePeg, Cond.code yX0_requirePeg cX0_requirePeg 1 none, Cond.classLink RX0 142 "java/lang/IndexOutOfBoundsException", Cond.initialized "java/lang/IndexOutOfBoundsException", Cond.methodLink RX0 64 yX0_isPeg, Cond.static yX0_isPeg, Cond.code yX0_isPeg cX0_isPeg 1 (some .boolean), Cond.methodLink RX0 53 yX0_requireStanding, Cond.instanceMethod yX0_requireStanding, Cond.selects RX0 yX0_requireStanding yX0_requireStanding, Cond.code yX0_requireStanding cX0_requireStanding 2 none, Cond.classLink RX0 214 "java/util/NoSuchElementException", Cond.initialized "java/util/NoSuchElementException", Cond.methodLink RX0 46 yX0_stands, Cond.instanceMethod yX0_stands, Cond.selects RX0 yX0_stands yX0_stands, Cond.code yX0_stands cX0_stands 2 (some .boolean), Cond.fieldLink RX0 9 "Pegfield" "standing" "[Z"]
def wsX0_isIn_r2 : List Cond := [Cond.methodLink RX0 112 yX0_requireNumber, Cond.static yX0_requireNumber, Cond.code yX0_requireNumber cX0_requireNumber 1 none, Cond.classLink RX0 39 "java/lang/IllegalArgumentException", Cond.initialized "java/lang/IllegalArgumentException", Cond.methodLink RX0 159 yX0_isNumber, Cond.static yX0_isNumber, Cond.code yX0_isNumber cX0_isNumber 1 (some .boolean), Cond.methodLink RX0 80 yX0_stretchGrains, Cond.instanceMethod yX0_stretchGrains, Cond.selects RX0 yX0_stretchGrains yX0_stretchGrains, Cond.code yX0_stretchGrains cX0_stretchGrains 3 (some .int), Cond.fieldLink RX0 27 "Pegfield" "wide" "Z", Cond.methodLink RX0 69 yX0_across, Cond.instanceMethod yX0_across, Cond.selects RX0 yX0_across yX0_across, Cond.code yX0_across cX0_across 2 (some .int), Cond.fieldLink RX0 13 "Pegfield" "acrossOf" "[I", Cond.methodLink RX0 73 yX0_up, Cond.instanceMethod yX0_up, Cond.selects RX0 yX0_up yX0_up, Cond.code yX0_up cX0_up 2 (some .int), Cond.fieldLink RX0 17 "Pegfield" "upOf" "[I", Cond.methodLink RX0 92 yX0_squareSum]
def wsX0_isIn_r3 : List Cond := [Cond.static yX0_squareSum, Cond.code yX0_squareSum cX0_squareSum 4 (some .int), Cond.methodLink RX0 119 yX0_grainsOfRoot, Cond.static yX0_grainsOfRoot, Cond.code yX0_grainsOfRoot cX0_grainsOfRoot 1 (some .int), Cond.methodLink RX0 221 yX0_rootDigits, Cond.static yX0_rootDigits, Cond.code yX0_rootDigits cX0_rootDigits 9 (some .long), Cond.methodLink RX0 115 yX0_sixteenthsOf, Cond.static yX0_sixteenthsOf, Cond.code yX0_sixteenthsOf cX0_sixteenthsOf 2 (some .int)]
def wsX0_isIn : List Cond := .code yX0_isIn cX0_isIn 5 (some .boolean) :: ((wsX0_isIn_r1 ++ (wsX0_isIn_r2 ++ wsX0_isIn_r3)) ++ wsX00 ++ (vx_atS RX0 146 "java/lang/IndexOutOfBoundsException" ["java/lang/RuntimeException", "java/lang/Exception"]).filter goodWord ++ (pg_atX RX0 218 "java/util/NoSuchElementException" 13 prog_13_method_4_code "java/lang/RuntimeException" ["java/lang/Exception"]).filter goodWord ++ (vx_atS RX0 43 "java/lang/IllegalArgumentException" ["java/lang/RuntimeException", "java/lang/Exception"]).filter goodWord)
def wsX0_doubleOf : List Cond := .code yX0_doubleOf cX0_doubleOf 4 (some .double) :: ([.methodLink RX0 99 yX0_placesAfterPoint, .static yX0_placesAfterPoint, .initialized RX0, .code yX0_placesAfterPoint cX0_placesAfterPoint 2 (some .int), .methodLink RX0 96 yX0_unitsOf, .static yX0_unitsOf, .code yX0_unitsOf cX0_unitsOf 2 (some .long), .constantLong RX0 230 (4503599627370495), .constantLong RX0 228 (4503599627370496)])
def wsX0_root_r1 : List Cond := [Cond.methodLink RX0 112 yX0_requireNumber, Cond.static yX0_requireNumber, Cond.initialized RX0, Cond.code yX0_requireNumber cX0_requireNumber 1 none, Cond.classLink RX0 39 "java/lang/IllegalArgumentException", Cond.initialized "java/lang/IllegalArgumentException", Cond.methodLink RX0 159 yX0_isNumber, Cond.static yX0_isNumber, Cond.code yX0_isNumber cX0_isNumber 1 (some .boolean), Cond.methodLink RX0 115 yX0_sixteenthsOf, Cond.static yX0_sixteenthsOf, Cond.code yX0_sixteenthsOf cX0_sixteenthsOf 2 (some .int), Cond.methodLink RX0 122 yX0_bitsOfRoot, Cond.static yX0_bitsOfRoot, Cond.code yX0_bitsOfRoot cX0_bitsOfRoot 6 (some .long), Cond.constantLong RX0 228 (4503599627370496), Cond.methodLink RX0 225 yX0_highestPair, Cond.static yX0_highestPair, Cond.code yX0_highestPair cX0_highestPair 2 (some .int), Cond.methodLink RX0 221 yX0_rootDigits, Cond.static yX0_rootDigits, Cond.code yX0_rootDigits cX0_rootDigits 9 (some .long), Cond.methodLink RX0 126 yX0_doubleOf, Cond.static yX0_doubleOf]
def wsX0_root_r2 : List Cond := [Cond.code yX0_doubleOf cX0_doubleOf 4 (some .double), Cond.methodLink RX0 99 yX0_placesAfterPoint, Cond.static yX0_placesAfterPoint, Cond.code yX0_placesAfterPoint cX0_placesAfterPoint 2 (some .int), Cond.methodLink RX0 96 yX0_unitsOf, Cond.static yX0_unitsOf, Cond.code yX0_unitsOf cX0_unitsOf 2 (some .long), Cond.constantLong RX0 230 (4503599627370495)]
def wsX0_root : List Cond := .code yX0_root cX0_root 3 (some .double) :: ((wsX0_root_r1 ++ wsX0_root_r2) ++ (vx_atS RX0 43 "java/lang/IllegalArgumentException" ["java/lang/RuntimeException", "java/lang/Exception"]).filter goodWord)
def wsX0_rootBits : List Cond := .code yX0_rootBits cX0_rootBits 3 (some .long) :: ([.methodLink RX0 112 yX0_requireNumber, .static yX0_requireNumber, .initialized RX0, .code yX0_requireNumber cX0_requireNumber 1 none, .classLink RX0 39 "java/lang/IllegalArgumentException", .initialized "java/lang/IllegalArgumentException", .methodLink RX0 159 yX0_isNumber, .static yX0_isNumber, .code yX0_isNumber cX0_isNumber 1 (some .boolean), .methodLink RX0 115 yX0_sixteenthsOf, .static yX0_sixteenthsOf, .code yX0_sixteenthsOf cX0_sixteenthsOf 2 (some .int), .methodLink RX0 122 yX0_bitsOfRoot, .static yX0_bitsOfRoot, .code yX0_bitsOfRoot cX0_bitsOfRoot 6 (some .long), .constantLong RX0 228 (4503599627370496), .methodLink RX0 225 yX0_highestPair, .static yX0_highestPair, .code yX0_highestPair cX0_highestPair 2 (some .int), .methodLink RX0 221 yX0_rootDigits, .static yX0_rootDigits, .code yX0_rootDigits cX0_rootDigits 9 (some .long)] ++ (vx_atS RX0 43 "java/lang/IllegalArgumentException" ["java/lang/RuntimeException", "java/lang/Exception"]).filter goodWord)
def wsX0_rootGrains : List Cond := .code yX0_rootGrains cX0_rootGrains 3 (some .int) :: ([.methodLink RX0 112 yX0_requireNumber, .static yX0_requireNumber, .initialized RX0, .code yX0_requireNumber cX0_requireNumber 1 none, .classLink RX0 39 "java/lang/IllegalArgumentException", .initialized "java/lang/IllegalArgumentException", .methodLink RX0 159 yX0_isNumber, .static yX0_isNumber, .code yX0_isNumber cX0_isNumber 1 (some .boolean), .methodLink RX0 115 yX0_sixteenthsOf, .static yX0_sixteenthsOf, .code yX0_sixteenthsOf cX0_sixteenthsOf 2 (some .int), .methodLink RX0 119 yX0_grainsOfRoot, .static yX0_grainsOfRoot, .code yX0_grainsOfRoot cX0_grainsOfRoot 1 (some .int), .methodLink RX0 221 yX0_rootDigits, .static yX0_rootDigits, .code yX0_rootDigits cX0_rootDigits 9 (some .long)] ++ (vx_atS RX0 43 "java/lang/IllegalArgumentException" ["java/lang/RuntimeException", "java/lang/Exception"]).filter goodWord)
def wsX0_wholePart : List Cond := .code yX0_wholePart cX0_wholePart 1 (some .int) :: ([.methodLink RX0 221 yX0_rootDigits, .static yX0_rootDigits, .initialized RX0, .code yX0_rootDigits cX0_rootDigits 9 (some .long)])
def wsX0_wholeRoot : List Cond := .code yX0_wholeRoot cX0_wholeRoot 2 (some .int) :: ([.methodLink RX0 112 yX0_requireNumber, .static yX0_requireNumber, .initialized RX0, .code yX0_requireNumber cX0_requireNumber 1 none, .classLink RX0 39 "java/lang/IllegalArgumentException", .initialized "java/lang/IllegalArgumentException", .methodLink RX0 159 yX0_isNumber, .static yX0_isNumber, .code yX0_isNumber cX0_isNumber 1 (some .boolean), .methodLink RX0 130 yX0_wholePart, .static yX0_wholePart, .code yX0_wholePart cX0_wholePart 1 (some .int), .methodLink RX0 221 yX0_rootDigits, .static yX0_rootDigits, .code yX0_rootDigits cX0_rootDigits 9 (some .long)] ++ (vx_atS RX0 43 "java/lang/IllegalArgumentException" ["java/lang/RuntimeException", "java/lang/Exception"]).filter goodWord)
def wsX0_isNearest_r1 : List Cond := [Cond.constantLong RX0 133 (2), Cond.methodLink RX0 112 yX0_requireNumber, Cond.static yX0_requireNumber, Cond.initialized RX0, Cond.code yX0_requireNumber cX0_requireNumber 1 none, Cond.classLink RX0 39 "java/lang/IllegalArgumentException", Cond.initialized "java/lang/IllegalArgumentException", Cond.methodLink RX0 159 yX0_isNumber, Cond.static yX0_isNumber, Cond.code yX0_isNumber cX0_isNumber 1 (some .boolean), Cond.methodLink RX0 115 yX0_sixteenthsOf, Cond.static yX0_sixteenthsOf, Cond.code yX0_sixteenthsOf cX0_sixteenthsOf 2 (some .int), Cond.methodLink RX0 122 yX0_bitsOfRoot, Cond.static yX0_bitsOfRoot, Cond.code yX0_bitsOfRoot cX0_bitsOfRoot 6 (some .long), Cond.constantLong RX0 228 (4503599627370496), Cond.methodLink RX0 225 yX0_highestPair, Cond.static yX0_highestPair, Cond.code yX0_highestPair cX0_highestPair 2 (some .int), Cond.methodLink RX0 221 yX0_rootDigits, Cond.static yX0_rootDigits, Cond.code yX0_rootDigits cX0_rootDigits 9 (some .long), Cond.methodLink RX0 96 yX0_unitsOf]
def wsX0_isNearest_r2 : List Cond := [Cond.static yX0_unitsOf, Cond.code yX0_unitsOf cX0_unitsOf 2 (some .long), Cond.constantLong RX0 230 (4503599627370495), Cond.methodLink RX0 99 yX0_placesAfterPoint, Cond.static yX0_placesAfterPoint, Cond.code yX0_placesAfterPoint cX0_placesAfterPoint 2 (some .int), Cond.methodLink RX0 103 yX0_compareSquare, Cond.static yX0_compareSquare, Cond.code yX0_compareSquare cX0_compareSquare 17 (some .int), Cond.constantLong RX0 232 (134217727), Cond.constantLong RX0 234 (18014398509481983)]
def wsX0_isNearest : List Cond := .code yX0_isNearest cX0_isNearest 9 (some .boolean) :: ((wsX0_isNearest_r1 ++ wsX0_isNearest_r2) ++ (vx_atS RX0 43 "java/lang/IllegalArgumentException" ["java/lang/RuntimeException", "java/lang/Exception"]).filter goodWord)
def wsX0_isHalved_r1 : List Cond := [Cond.methodLink RX0 112 yX0_requireNumber, Cond.static yX0_requireNumber, Cond.initialized RX0, Cond.code yX0_requireNumber cX0_requireNumber 1 none, Cond.classLink RX0 39 "java/lang/IllegalArgumentException", Cond.initialized "java/lang/IllegalArgumentException", Cond.methodLink RX0 159 yX0_isNumber, Cond.static yX0_isNumber, Cond.code yX0_isNumber cX0_isNumber 1 (some .boolean), Cond.methodLink RX0 115 yX0_sixteenthsOf, Cond.static yX0_sixteenthsOf, Cond.code yX0_sixteenthsOf cX0_sixteenthsOf 2 (some .int), Cond.methodLink RX0 122 yX0_bitsOfRoot, Cond.static yX0_bitsOfRoot, Cond.code yX0_bitsOfRoot cX0_bitsOfRoot 6 (some .long), Cond.constantLong RX0 228 (4503599627370496), Cond.methodLink RX0 225 yX0_highestPair, Cond.static yX0_highestPair, Cond.code yX0_highestPair cX0_highestPair 2 (some .int), Cond.methodLink RX0 221 yX0_rootDigits, Cond.static yX0_rootDigits, Cond.code yX0_rootDigits cX0_rootDigits 9 (some .long), Cond.methodLink RX0 88 yX0_twice, Cond.static yX0_twice]
def wsX0_isHalved_r2 : List Cond := [Cond.code yX0_twice cX0_twice 2 (some .long)]
def wsX0_isHalved : List Cond := .code yX0_isHalved cX0_isHalved 2 (some .boolean) :: ((wsX0_isHalved_r1 ++ wsX0_isHalved_r2) ++ (vx_atS RX0 43 "java/lang/IllegalArgumentException" ["java/lang/RuntimeException", "java/lang/Exception"]).filter goodWord)
def wsX0_between : List Cond := .code yX0_between cX0_between 4 (some .int) :: ([.methodLink RX0 112 yX0_requireNumber, .static yX0_requireNumber, .initialized RX0, .code yX0_requireNumber cX0_requireNumber 1 none, .classLink RX0 39 "java/lang/IllegalArgumentException", .initialized "java/lang/IllegalArgumentException", .methodLink RX0 159 yX0_isNumber, .static yX0_isNumber, .code yX0_isNumber cX0_isNumber 1 (some .boolean), .methodLink RX0 130 yX0_wholePart, .static yX0_wholePart, .code yX0_wholePart cX0_wholePart 1 (some .int), .methodLink RX0 221 yX0_rootDigits, .static yX0_rootDigits, .code yX0_rootDigits cX0_rootDigits 9 (some .long)] ++ (vx_atS RX0 43 "java/lang/IllegalArgumentException" ["java/lang/RuntimeException", "java/lang/Exception"]).filter goodWord)
def wsX0_join : List Cond := .code yX0_join cX0_join 2 (some .int) :: ([.classLink RX0 59 "java/lang/IllegalStateException", .initialized "java/lang/IllegalStateException", .fieldLink RX0 23 "Pegfield" "ringSize" "I", .fieldLink RX0 20 "Pegfield" "ring" "[I", .methodLink RX0 31 yX0_requirePeg, .static yX0_requirePeg, .initialized RX0, .code yX0_requirePeg cX0_requirePeg 1 none, .classLink RX0 142 "java/lang/IndexOutOfBoundsException", .initialized "java/lang/IndexOutOfBoundsException", .methodLink RX0 64 yX0_isPeg, .static yX0_isPeg, .code yX0_isPeg cX0_isPeg 1 (some .boolean), .methodLink RX0 53 yX0_requireStanding, .instanceMethod yX0_requireStanding, .selects RX0 yX0_requireStanding yX0_requireStanding, .code yX0_requireStanding cX0_requireStanding 2 none, .classLink RX0 214 "java/util/NoSuchElementException", .initialized "java/util/NoSuchElementException", .methodLink RX0 46 yX0_stands, .instanceMethod yX0_stands, .selects RX0 yX0_stands yX0_stands, .code yX0_stands cX0_stands 2 (some .boolean), .fieldLink RX0 9 "Pegfield" "standing" "[Z"] ++ wsX00 ++ (vx_atS RX0 63 "java/lang/IllegalStateException" ["java/lang/RuntimeException", "java/lang/Exception"]).filter goodWord ++ (vx_atS RX0 146 "java/lang/IndexOutOfBoundsException" ["java/lang/RuntimeException", "java/lang/Exception"]).filter goodWord ++ (pg_atX RX0 218 "java/util/NoSuchElementException" 13 prog_13_method_4_code "java/lang/RuntimeException" ["java/lang/Exception"]).filter goodWord)
def wsX0_unjoin : List Cond := .code yX0_unjoin cX0_unjoin 1 (some .int) :: ([.classLink RX0 59 "java/lang/IllegalStateException", .initialized "java/lang/IllegalStateException", .fieldLink RX0 23 "Pegfield" "ringSize" "I", .methodLink RX0 139 yX0_pegInRing, .instanceMethod yX0_pegInRing, .selects RX0 yX0_pegInRing yX0_pegInRing, .initialized RX0, .code yX0_pegInRing cX0_pegInRing 2 (some .int), .fieldLink RX0 20 "Pegfield" "ring" "[I"] ++ wsX00 ++ (vx_atS RX0 63 "java/lang/IllegalStateException" ["java/lang/RuntimeException", "java/lang/Exception"]).filter goodWord)
def wsX0_ringAt : List Cond := .code yX0_ringAt cX0_ringAt 2 (some .int) :: ([.classLink RX0 142 "java/lang/IndexOutOfBoundsException", .initialized "java/lang/IndexOutOfBoundsException", .fieldLink RX0 23 "Pegfield" "ringSize" "I", .methodLink RX0 139 yX0_pegInRing, .instanceMethod yX0_pegInRing, .selects RX0 yX0_pegInRing yX0_pegInRing, .initialized RX0, .code yX0_pegInRing cX0_pegInRing 2 (some .int), .fieldLink RX0 20 "Pegfield" "ring" "[I"] ++ wsX00 ++ (vx_atS RX0 146 "java/lang/IndexOutOfBoundsException" ["java/lang/RuntimeException", "java/lang/Exception"]).filter goodWord)
def wsX0_placeAfter : List Cond := .code yX0_placeAfter cX0_placeAfter 2 (some .int) :: ([.fieldLink RX0 23 "Pegfield" "ringSize" "I"] ++ wsX00)
def wsX0_around_r1 : List Cond := [Cond.fieldLink RX0 23 "Pegfield" "ringSize" "I", Cond.methodLink RX0 139 yX0_pegInRing, Cond.instanceMethod yX0_pegInRing, Cond.selects RX0 yX0_pegInRing yX0_pegInRing, Cond.initialized RX0, Cond.code yX0_pegInRing cX0_pegInRing 2 (some .int), Cond.fieldLink RX0 20 "Pegfield" "ring" "[I", Cond.methodLink RX0 147 yX0_placeAfter, Cond.instanceMethod yX0_placeAfter, Cond.selects RX0 yX0_placeAfter yX0_placeAfter, Cond.code yX0_placeAfter cX0_placeAfter 2 (some .int), Cond.methodLink RX0 80 yX0_stretchGrains, Cond.instanceMethod yX0_stretchGrains, Cond.selects RX0 yX0_stretchGrains yX0_stretchGrains, Cond.code yX0_stretchGrains cX0_stretchGrains 3 (some .int), Cond.fieldLink RX0 27 "Pegfield" "wide" "Z", Cond.methodLink RX0 69 yX0_across, Cond.instanceMethod yX0_across, Cond.selects RX0 yX0_across yX0_across, Cond.code yX0_across cX0_across 2 (some .int), Cond.fieldLink RX0 13 "Pegfield" "acrossOf" "[I", Cond.methodLink RX0 64 yX0_isPeg, Cond.static yX0_isPeg, Cond.code yX0_isPeg cX0_isPeg 1 (some .boolean)]
def wsX0_around_r2 : List Cond := [Cond.methodLink RX0 73 yX0_up, Cond.instanceMethod yX0_up, Cond.selects RX0 yX0_up yX0_up, Cond.code yX0_up cX0_up 2 (some .int), Cond.fieldLink RX0 17 "Pegfield" "upOf" "[I", Cond.methodLink RX0 92 yX0_squareSum, Cond.static yX0_squareSum, Cond.code yX0_squareSum cX0_squareSum 4 (some .int), Cond.methodLink RX0 119 yX0_grainsOfRoot, Cond.static yX0_grainsOfRoot, Cond.code yX0_grainsOfRoot cX0_grainsOfRoot 1 (some .int), Cond.methodLink RX0 221 yX0_rootDigits, Cond.static yX0_rootDigits, Cond.code yX0_rootDigits cX0_rootDigits 9 (some .long)]
def wsX0_around : List Cond := .code yX0_around cX0_around 3 (some .int) :: ((wsX0_around_r1 ++ wsX0_around_r2) ++ wsX00)
def wsX0_doubleArea : List Cond := .code yX0_doubleArea cX0_doubleArea 5 (some .int) :: ([.fieldLink RX0 23 "Pegfield" "ringSize" "I", .methodLink RX0 139 yX0_pegInRing, .instanceMethod yX0_pegInRing, .selects RX0 yX0_pegInRing yX0_pegInRing, .initialized RX0, .code yX0_pegInRing cX0_pegInRing 2 (some .int), .fieldLink RX0 20 "Pegfield" "ring" "[I", .methodLink RX0 147 yX0_placeAfter, .instanceMethod yX0_placeAfter, .selects RX0 yX0_placeAfter yX0_placeAfter, .code yX0_placeAfter cX0_placeAfter 2 (some .int), .methodLink RX0 69 yX0_across, .instanceMethod yX0_across, .selects RX0 yX0_across yX0_across, .code yX0_across cX0_across 2 (some .int), .fieldLink RX0 13 "Pegfield" "acrossOf" "[I", .methodLink RX0 64 yX0_isPeg, .static yX0_isPeg, .code yX0_isPeg cX0_isPeg 1 (some .boolean), .methodLink RX0 73 yX0_up, .instanceMethod yX0_up, .selects RX0 yX0_up yX0_up, .code yX0_up cX0_up 2 (some .int), .fieldLink RX0 17 "Pegfield" "upOf" "[I"] ++ wsX00)
def wsX0_sideBits_r1 : List Cond := [Cond.classLink RX0 59 "java/lang/IllegalStateException", Cond.initialized "java/lang/IllegalStateException", Cond.methodLink RX0 154 Lib.Math.abs.name, Cond.static Lib.Math.abs.name, Cond.initialized "java/lang/Math", Cond.code Lib.Math.abs.name Lib.Math.abs.code 1 (some .int), Cond.methodLink RX0 150 yX0_doubleArea, Cond.instanceMethod yX0_doubleArea, Cond.selects RX0 yX0_doubleArea yX0_doubleArea, Cond.initialized RX0, Cond.code yX0_doubleArea cX0_doubleArea 5 (some .int), Cond.fieldLink RX0 23 "Pegfield" "ringSize" "I", Cond.methodLink RX0 139 yX0_pegInRing, Cond.instanceMethod yX0_pegInRing, Cond.selects RX0 yX0_pegInRing yX0_pegInRing, Cond.code yX0_pegInRing cX0_pegInRing 2 (some .int), Cond.fieldLink RX0 20 "Pegfield" "ring" "[I", Cond.methodLink RX0 147 yX0_placeAfter, Cond.instanceMethod yX0_placeAfter, Cond.selects RX0 yX0_placeAfter yX0_placeAfter, Cond.code yX0_placeAfter cX0_placeAfter 2 (some .int), Cond.methodLink RX0 69 yX0_across, Cond.instanceMethod yX0_across, Cond.selects RX0 yX0_across yX0_across]
def wsX0_sideBits_r2 : List Cond := [Cond.code yX0_across cX0_across 2 (some .int), Cond.fieldLink RX0 13 "Pegfield" "acrossOf" "[I", Cond.methodLink RX0 64 yX0_isPeg, Cond.static yX0_isPeg, Cond.code yX0_isPeg cX0_isPeg 1 (some .boolean), Cond.methodLink RX0 73 yX0_up, Cond.instanceMethod yX0_up, Cond.selects RX0 yX0_up yX0_up, Cond.code yX0_up cX0_up 2 (some .int), Cond.fieldLink RX0 17 "Pegfield" "upOf" "[I", Cond.methodLink RX0 159 yX0_isNumber, Cond.static yX0_isNumber, Cond.code yX0_isNumber cX0_isNumber 1 (some .boolean), Cond.methodLink RX0 115 yX0_sixteenthsOf, Cond.static yX0_sixteenthsOf, Cond.code yX0_sixteenthsOf cX0_sixteenthsOf 2 (some .int), Cond.methodLink RX0 122 yX0_bitsOfRoot, Cond.static yX0_bitsOfRoot, Cond.code yX0_bitsOfRoot cX0_bitsOfRoot 6 (some .long), Cond.constantLong RX0 228 (4503599627370496), Cond.methodLink RX0 225 yX0_highestPair, Cond.static yX0_highestPair, Cond.code yX0_highestPair cX0_highestPair 2 (some .int), Cond.methodLink RX0 221 yX0_rootDigits]
def wsX0_sideBits_r3 : List Cond := [Cond.static yX0_rootDigits, Cond.code yX0_rootDigits cX0_rootDigits 9 (some .long)]
def wsX0_sideBits : List Cond := .code yX0_sideBits cX0_sideBits 2 (some .long) :: ((wsX0_sideBits_r1 ++ (wsX0_sideBits_r2 ++ wsX0_sideBits_r3)) ++ wsX00 ++ (vx_atS RX0 63 "java/lang/IllegalStateException" ["java/lang/RuntimeException", "java/lang/Exception"]).filter goodWord)
def wsX0_checksum_r1 : List Cond := [Cond.constantLong RX0 164 (7), Cond.constantLong RX0 166 (31), Cond.fieldLink RX0 23 "Pegfield" "ringSize" "I", Cond.fieldLink RX0 27 "Pegfield" "wide" "Z", Cond.methodLink RX0 46 yX0_stands, Cond.instanceMethod yX0_stands, Cond.selects RX0 yX0_stands yX0_stands, Cond.initialized RX0, Cond.code yX0_stands cX0_stands 2 (some .boolean), Cond.fieldLink RX0 9 "Pegfield" "standing" "[Z", Cond.methodLink RX0 64 yX0_isPeg, Cond.static yX0_isPeg, Cond.code yX0_isPeg cX0_isPeg 1 (some .boolean), Cond.methodLink RX0 73 yX0_up, Cond.instanceMethod yX0_up, Cond.selects RX0 yX0_up yX0_up, Cond.code yX0_up cX0_up 2 (some .int), Cond.fieldLink RX0 17 "Pegfield" "upOf" "[I", Cond.methodLink RX0 69 yX0_across, Cond.instanceMethod yX0_across, Cond.selects RX0 yX0_across yX0_across, Cond.code yX0_across cX0_across 2 (some .int), Cond.fieldLink RX0 13 "Pegfield" "acrossOf" "[I", Cond.methodLink RX0 107 yX0_nearestOther]
def wsX0_checksum_r2 : List Cond := [Cond.instanceMethod yX0_nearestOther, Cond.selects RX0 yX0_nearestOther yX0_nearestOther, Cond.code yX0_nearestOther cX0_nearestOther 6 (some .int), Cond.methodLink RX0 80 yX0_stretchGrains, Cond.instanceMethod yX0_stretchGrains, Cond.selects RX0 yX0_stretchGrains yX0_stretchGrains, Cond.code yX0_stretchGrains cX0_stretchGrains 3 (some .int), Cond.methodLink RX0 92 yX0_squareSum, Cond.static yX0_squareSum, Cond.code yX0_squareSum cX0_squareSum 4 (some .int), Cond.methodLink RX0 119 yX0_grainsOfRoot, Cond.static yX0_grainsOfRoot, Cond.code yX0_grainsOfRoot cX0_grainsOfRoot 1 (some .int), Cond.methodLink RX0 221 yX0_rootDigits, Cond.static yX0_rootDigits, Cond.code yX0_rootDigits cX0_rootDigits 9 (some .long), Cond.methodLink RX0 139 yX0_pegInRing, Cond.instanceMethod yX0_pegInRing, Cond.selects RX0 yX0_pegInRing yX0_pegInRing, Cond.code yX0_pegInRing cX0_pegInRing 2 (some .int), Cond.fieldLink RX0 20 "Pegfield" "ring" "[I", Cond.methodLink RX0 168 yX0_around, Cond.instanceMethod yX0_around, Cond.selects RX0 yX0_around yX0_around]
def wsX0_checksum_r3 : List Cond := [Cond.code yX0_around cX0_around 3 (some .int), Cond.methodLink RX0 147 yX0_placeAfter, Cond.instanceMethod yX0_placeAfter, Cond.selects RX0 yX0_placeAfter yX0_placeAfter, Cond.code yX0_placeAfter cX0_placeAfter 2 (some .int)]
def wsX0_checksum : List Cond := .code yX0_checksum cX0_checksum 4 (some .long) :: ((wsX0_checksum_r1 ++ (wsX0_checksum_r2 ++ wsX0_checksum_r3)) ++ wsX00)
def wsX0_arePairsSound_r1 : List Cond := [Cond.methodLink RX0 46 yX0_stands, Cond.instanceMethod yX0_stands, Cond.selects RX0 yX0_stands yX0_stands, Cond.initialized RX0, Cond.code yX0_stands cX0_stands 2 (some .boolean), Cond.fieldLink RX0 9 "Pegfield" "standing" "[Z", Cond.methodLink RX0 64 yX0_isPeg, Cond.static yX0_isPeg, Cond.code yX0_isPeg cX0_isPeg 1 (some .boolean), Cond.methodLink RX0 181 yX0_isSteady, Cond.instanceMethod yX0_isSteady, Cond.selects RX0 yX0_isSteady yX0_isSteady, Cond.code yX0_isSteady cX0_isSteady 10 (some .boolean), Cond.fieldLink RX0 27 "Pegfield" "wide" "Z", Cond.methodLink RX0 76 yX0_requireTwo, Cond.instanceMethod yX0_requireTwo, Cond.selects RX0 yX0_requireTwo yX0_requireTwo, Cond.code yX0_requireTwo cX0_requireTwo 3 none, Cond.methodLink RX0 31 yX0_requirePeg, Cond.static yX0_requirePeg, Cond.code yX0_requirePeg cX0_requirePeg 1 none, Cond.classLink RX0 142 "java/lang/IndexOutOfBoundsException", Cond.initialized "java/lang/IndexOutOfBoundsException", Cond.methodLink RX0 53 yX0_requireStanding]
def wsX0_arePairsSound_r2 : List Cond := [Cond.instanceMethod yX0_requireStanding, Cond.selects RX0 yX0_requireStanding yX0_requireStanding, Cond.code yX0_requireStanding cX0_requireStanding 2 none, Cond.classLink RX0 214 "java/util/NoSuchElementException", Cond.initialized "java/util/NoSuchElementException", Cond.methodLink RX0 69 yX0_across, Cond.instanceMethod yX0_across, Cond.selects RX0 yX0_across yX0_across, Cond.code yX0_across cX0_across 2 (some .int), Cond.fieldLink RX0 13 "Pegfield" "acrossOf" "[I", Cond.methodLink RX0 73 yX0_up, Cond.instanceMethod yX0_up, Cond.selects RX0 yX0_up yX0_up, Cond.code yX0_up cX0_up 2 (some .int), Cond.fieldLink RX0 17 "Pegfield" "upOf" "[I", Cond.methodLink RX0 84 yX0_hypotenuseBits, Cond.static yX0_hypotenuseBits, Cond.code yX0_hypotenuseBits cX0_hypotenuseBits 3 (some .long), Cond.methodLink RX0 92 yX0_squareSum, Cond.static yX0_squareSum, Cond.code yX0_squareSum cX0_squareSum 4 (some .int), Cond.methodLink RX0 122 yX0_bitsOfRoot, Cond.static yX0_bitsOfRoot, Cond.code yX0_bitsOfRoot cX0_bitsOfRoot 6 (some .long)]
def wsX0_arePairsSound_r3 : List Cond := [Cond.constantLong RX0 228 (4503599627370496), Cond.methodLink RX0 225 yX0_highestPair, Cond.static yX0_highestPair, Cond.code yX0_highestPair cX0_highestPair 2 (some .int), Cond.methodLink RX0 221 yX0_rootDigits, Cond.static yX0_rootDigits, Cond.code yX0_rootDigits cX0_rootDigits 9 (some .long), Cond.methodLink RX0 185 yX0_isDoubled, Cond.instanceMethod yX0_isDoubled, Cond.selects RX0 yX0_isDoubled yX0_isDoubled, Cond.code yX0_isDoubled cX0_isDoubled 5 (some .boolean), Cond.methodLink RX0 88 yX0_twice, Cond.static yX0_twice, Cond.code yX0_twice cX0_twice 2 (some .long), Cond.methodLink RX0 188 yX0_isClose, Cond.instanceMethod yX0_isClose, Cond.selects RX0 yX0_isClose yX0_isClose, Cond.code yX0_isClose cX0_isClose 11 (some .boolean), Cond.methodLink RX0 96 yX0_unitsOf, Cond.static yX0_unitsOf, Cond.code yX0_unitsOf cX0_unitsOf 2 (some .long), Cond.constantLong RX0 230 (4503599627370495), Cond.methodLink RX0 99 yX0_placesAfterPoint, Cond.static yX0_placesAfterPoint]
def wsX0_arePairsSound_r4 : List Cond := [Cond.code yX0_placesAfterPoint cX0_placesAfterPoint 2 (some .int), Cond.methodLink RX0 103 yX0_compareSquare, Cond.static yX0_compareSquare, Cond.code yX0_compareSquare cX0_compareSquare 17 (some .int), Cond.constantLong RX0 232 (134217727), Cond.constantLong RX0 133 (2), Cond.constantLong RX0 234 (18014398509481983)]
def wsX0_arePairsSound : List Cond := .code yX0_arePairsSound cX0_arePairsSound 3 (some .boolean) :: ((wsX0_arePairsSound_r1 ++ (wsX0_arePairsSound_r2 ++ (wsX0_arePairsSound_r3 ++ wsX0_arePairsSound_r4))) ++ wsX00 ++ (vx_atS RX0 146 "java/lang/IndexOutOfBoundsException" ["java/lang/RuntimeException", "java/lang/Exception"]).filter goodWord ++ (pg_atX RX0 218 "java/util/NoSuchElementException" 13 prog_13_method_4_code "java/lang/RuntimeException" ["java/lang/Exception"]).filter goodWord)
def wsX0_isStraightByAll_r1 : List Cond := [Cond.methodLink RX0 46 yX0_stands, Cond.instanceMethod yX0_stands, Cond.selects RX0 yX0_stands yX0_stands, Cond.initialized RX0, Cond.code yX0_stands cX0_stands 2 (some .boolean), Cond.fieldLink RX0 9 "Pegfield" "standing" "[Z", Cond.methodLink RX0 64 yX0_isPeg, Cond.static yX0_isPeg, Cond.code yX0_isPeg cX0_isPeg 1 (some .boolean), Cond.methodLink RX0 194 yX0_isStraight, Cond.instanceMethod yX0_isStraight, Cond.selects RX0 yX0_isStraight yX0_isStraight, Cond.code yX0_isStraight cX0_isStraight 4 (some .boolean), Cond.methodLink RX0 31 yX0_requirePeg, Cond.static yX0_requirePeg, Cond.code yX0_requirePeg cX0_requirePeg 1 none, Cond.classLink RX0 142 "java/lang/IndexOutOfBoundsException", Cond.initialized "java/lang/IndexOutOfBoundsException", Cond.methodLink RX0 53 yX0_requireStanding, Cond.instanceMethod yX0_requireStanding, Cond.selects RX0 yX0_requireStanding yX0_requireStanding, Cond.code yX0_requireStanding cX0_requireStanding 2 none, Cond.classLink RX0 214 "java/util/NoSuchElementException", Cond.initialized "java/util/NoSuchElementException"]
def wsX0_isStraightByAll_r2 : List Cond := [Cond.methodLink RX0 80 yX0_stretchGrains, Cond.instanceMethod yX0_stretchGrains, Cond.selects RX0 yX0_stretchGrains yX0_stretchGrains, Cond.code yX0_stretchGrains cX0_stretchGrains 3 (some .int), Cond.fieldLink RX0 27 "Pegfield" "wide" "Z", Cond.methodLink RX0 69 yX0_across, Cond.instanceMethod yX0_across, Cond.selects RX0 yX0_across yX0_across, Cond.code yX0_across cX0_across 2 (some .int), Cond.fieldLink RX0 13 "Pegfield" "acrossOf" "[I", Cond.methodLink RX0 73 yX0_up, Cond.instanceMethod yX0_up, Cond.selects RX0 yX0_up yX0_up, Cond.code yX0_up cX0_up 2 (some .int), Cond.fieldLink RX0 17 "Pegfield" "upOf" "[I", Cond.methodLink RX0 92 yX0_squareSum, Cond.static yX0_squareSum, Cond.code yX0_squareSum cX0_squareSum 4 (some .int), Cond.methodLink RX0 119 yX0_grainsOfRoot, Cond.static yX0_grainsOfRoot, Cond.code yX0_grainsOfRoot cX0_grainsOfRoot 1 (some .int), Cond.methodLink RX0 221 yX0_rootDigits, Cond.static yX0_rootDigits, Cond.code yX0_rootDigits cX0_rootDigits 9 (some .long)]
def wsX0_isStraightByAll : List Cond := .code yX0_isStraightByAll cX0_isStraightByAll 4 (some .boolean) :: ((wsX0_isStraightByAll_r1 ++ wsX0_isStraightByAll_r2) ++ wsX00 ++ (vx_atS RX0 146 "java/lang/IndexOutOfBoundsException" ["java/lang/RuntimeException", "java/lang/Exception"]).filter goodWord ++ (pg_atX RX0 218 "java/util/NoSuchElementException" 13 prog_13_method_4_code "java/lang/RuntimeException" ["java/lang/Exception"]).filter goodWord)
def wsX0_areThreesSound_r1 : List Cond := [Cond.methodLink RX0 46 yX0_stands, Cond.instanceMethod yX0_stands, Cond.selects RX0 yX0_stands yX0_stands, Cond.initialized RX0, Cond.code yX0_stands cX0_stands 2 (some .boolean), Cond.fieldLink RX0 9 "Pegfield" "standing" "[Z", Cond.methodLink RX0 64 yX0_isPeg, Cond.static yX0_isPeg, Cond.code yX0_isPeg cX0_isPeg 1 (some .boolean), Cond.methodLink RX0 191 yX0_isStraightByAll, Cond.instanceMethod yX0_isStraightByAll, Cond.selects RX0 yX0_isStraightByAll yX0_isStraightByAll, Cond.code yX0_isStraightByAll cX0_isStraightByAll 4 (some .boolean), Cond.methodLink RX0 194 yX0_isStraight, Cond.instanceMethod yX0_isStraight, Cond.selects RX0 yX0_isStraight yX0_isStraight, Cond.code yX0_isStraight cX0_isStraight 4 (some .boolean), Cond.methodLink RX0 31 yX0_requirePeg, Cond.static yX0_requirePeg, Cond.code yX0_requirePeg cX0_requirePeg 1 none, Cond.classLink RX0 142 "java/lang/IndexOutOfBoundsException", Cond.initialized "java/lang/IndexOutOfBoundsException", Cond.methodLink RX0 53 yX0_requireStanding, Cond.instanceMethod yX0_requireStanding]
def wsX0_areThreesSound_r2 : List Cond := [Cond.selects RX0 yX0_requireStanding yX0_requireStanding, Cond.code yX0_requireStanding cX0_requireStanding 2 none, Cond.classLink RX0 214 "java/util/NoSuchElementException", Cond.initialized "java/util/NoSuchElementException", Cond.methodLink RX0 80 yX0_stretchGrains, Cond.instanceMethod yX0_stretchGrains, Cond.selects RX0 yX0_stretchGrains yX0_stretchGrains, Cond.code yX0_stretchGrains cX0_stretchGrains 3 (some .int), Cond.fieldLink RX0 27 "Pegfield" "wide" "Z", Cond.methodLink RX0 69 yX0_across, Cond.instanceMethod yX0_across, Cond.selects RX0 yX0_across yX0_across, Cond.code yX0_across cX0_across 2 (some .int), Cond.fieldLink RX0 13 "Pegfield" "acrossOf" "[I", Cond.methodLink RX0 73 yX0_up, Cond.instanceMethod yX0_up, Cond.selects RX0 yX0_up yX0_up, Cond.code yX0_up cX0_up 2 (some .int), Cond.fieldLink RX0 17 "Pegfield" "upOf" "[I", Cond.methodLink RX0 92 yX0_squareSum, Cond.static yX0_squareSum, Cond.code yX0_squareSum cX0_squareSum 4 (some .int), Cond.methodLink RX0 119 yX0_grainsOfRoot, Cond.static yX0_grainsOfRoot]
def wsX0_areThreesSound_r3 : List Cond := [Cond.code yX0_grainsOfRoot cX0_grainsOfRoot 1 (some .int), Cond.methodLink RX0 221 yX0_rootDigits, Cond.static yX0_rootDigits, Cond.code yX0_rootDigits cX0_rootDigits 9 (some .long)]
def wsX0_areThreesSound : List Cond := .code yX0_areThreesSound cX0_areThreesSound 3 (some .boolean) :: ((wsX0_areThreesSound_r1 ++ (wsX0_areThreesSound_r2 ++ wsX0_areThreesSound_r3)) ++ wsX00 ++ (vx_atS RX0 146 "java/lang/IndexOutOfBoundsException" ["java/lang/RuntimeException", "java/lang/Exception"]).filter goodWord ++ (pg_atX RX0 218 "java/util/NoSuchElementException" 13 prog_13_method_4_code "java/lang/RuntimeException" ["java/lang/Exception"]).filter goodWord)
def wsX0_isRootSound_r1 : List Cond := [Cond.methodLink RX0 205 yX0_isNearest, Cond.instanceMethod yX0_isNearest, Cond.selects RX0 yX0_isNearest yX0_isNearest, Cond.initialized RX0, Cond.code yX0_isNearest cX0_isNearest 9 (some .boolean), Cond.constantLong RX0 133 (2), Cond.methodLink RX0 112 yX0_requireNumber, Cond.static yX0_requireNumber, Cond.code yX0_requireNumber cX0_requireNumber 1 none, Cond.classLink RX0 39 "java/lang/IllegalArgumentException", Cond.initialized "java/lang/IllegalArgumentException", Cond.methodLink RX0 159 yX0_isNumber, Cond.static yX0_isNumber, Cond.code yX0_isNumber cX0_isNumber 1 (some .boolean), Cond.methodLink RX0 115 yX0_sixteenthsOf, Cond.static yX0_sixteenthsOf, Cond.code yX0_sixteenthsOf cX0_sixteenthsOf 2 (some .int), Cond.methodLink RX0 122 yX0_bitsOfRoot, Cond.static yX0_bitsOfRoot, Cond.code yX0_bitsOfRoot cX0_bitsOfRoot 6 (some .long), Cond.constantLong RX0 228 (4503599627370496), Cond.methodLink RX0 225 yX0_highestPair, Cond.static yX0_highestPair, Cond.code yX0_highestPair cX0_highestPair 2 (some .int)]
def wsX0_isRootSound_r2 : List Cond := [Cond.methodLink RX0 221 yX0_rootDigits, Cond.static yX0_rootDigits, Cond.code yX0_rootDigits cX0_rootDigits 9 (some .long), Cond.methodLink RX0 96 yX0_unitsOf, Cond.static yX0_unitsOf, Cond.code yX0_unitsOf cX0_unitsOf 2 (some .long), Cond.constantLong RX0 230 (4503599627370495), Cond.methodLink RX0 99 yX0_placesAfterPoint, Cond.static yX0_placesAfterPoint, Cond.code yX0_placesAfterPoint cX0_placesAfterPoint 2 (some .int), Cond.methodLink RX0 103 yX0_compareSquare, Cond.static yX0_compareSquare, Cond.code yX0_compareSquare cX0_compareSquare 17 (some .int), Cond.constantLong RX0 232 (134217727), Cond.constantLong RX0 234 (18014398509481983), Cond.methodLink RX0 209 yX0_isHalved, Cond.instanceMethod yX0_isHalved, Cond.selects RX0 yX0_isHalved yX0_isHalved, Cond.code yX0_isHalved cX0_isHalved 2 (some .boolean), Cond.methodLink RX0 88 yX0_twice, Cond.static yX0_twice, Cond.code yX0_twice cX0_twice 2 (some .long)]
def wsX0_isRootSound : List Cond := .code yX0_isRootSound cX0_isRootSound 2 (some .boolean) :: ((wsX0_isRootSound_r1 ++ wsX0_isRootSound_r2) ++ (vx_atS RX0 43 "java/lang/IllegalArgumentException" ["java/lang/RuntimeException", "java/lang/Exception"]).filter goodWord)
def wsX0_isAreaSound_r1 : List Cond := [Cond.methodLink RX0 154 Lib.Math.abs.name, Cond.static Lib.Math.abs.name, Cond.initialized "java/lang/Math", Cond.code Lib.Math.abs.name Lib.Math.abs.code 1 (some .int), Cond.methodLink RX0 150 yX0_doubleArea, Cond.instanceMethod yX0_doubleArea, Cond.selects RX0 yX0_doubleArea yX0_doubleArea, Cond.initialized RX0, Cond.code yX0_doubleArea cX0_doubleArea 5 (some .int), Cond.fieldLink RX0 23 "Pegfield" "ringSize" "I", Cond.methodLink RX0 139 yX0_pegInRing, Cond.instanceMethod yX0_pegInRing, Cond.selects RX0 yX0_pegInRing yX0_pegInRing, Cond.code yX0_pegInRing cX0_pegInRing 2 (some .int), Cond.fieldLink RX0 20 "Pegfield" "ring" "[I", Cond.methodLink RX0 147 yX0_placeAfter, Cond.instanceMethod yX0_placeAfter, Cond.selects RX0 yX0_placeAfter yX0_placeAfter, Cond.code yX0_placeAfter cX0_placeAfter 2 (some .int), Cond.methodLink RX0 69 yX0_across, Cond.instanceMethod yX0_across, Cond.selects RX0 yX0_across yX0_across, Cond.code yX0_across cX0_across 2 (some .int), Cond.fieldLink RX0 13 "Pegfield" "acrossOf" "[I"]
def wsX0_isAreaSound_r2 : List Cond := [Cond.methodLink RX0 64 yX0_isPeg, Cond.static yX0_isPeg, Cond.code yX0_isPeg cX0_isPeg 1 (some .boolean), Cond.methodLink RX0 73 yX0_up, Cond.instanceMethod yX0_up, Cond.selects RX0 yX0_up yX0_up, Cond.code yX0_up cX0_up 2 (some .int), Cond.fieldLink RX0 17 "Pegfield" "upOf" "[I", Cond.methodLink RX0 159 yX0_isNumber, Cond.static yX0_isNumber, Cond.code yX0_isNumber cX0_isNumber 1 (some .boolean), Cond.methodLink RX0 198 yX0_isRootSound, Cond.instanceMethod yX0_isRootSound, Cond.selects RX0 yX0_isRootSound yX0_isRootSound, Cond.code yX0_isRootSound cX0_isRootSound 2 (some .boolean), Cond.methodLink RX0 205 yX0_isNearest, Cond.instanceMethod yX0_isNearest, Cond.selects RX0 yX0_isNearest yX0_isNearest, Cond.code yX0_isNearest cX0_isNearest 9 (some .boolean), Cond.constantLong RX0 133 (2), Cond.methodLink RX0 112 yX0_requireNumber, Cond.static yX0_requireNumber, Cond.code yX0_requireNumber cX0_requireNumber 1 none, Cond.classLink RX0 39 "java/lang/IllegalArgumentException"]
def wsX0_isAreaSound_r3 : List Cond := [Cond.initialized "java/lang/IllegalArgumentException", Cond.methodLink RX0 115 yX0_sixteenthsOf, Cond.static yX0_sixteenthsOf, Cond.code yX0_sixteenthsOf cX0_sixteenthsOf 2 (some .int), Cond.methodLink RX0 122 yX0_bitsOfRoot, Cond.static yX0_bitsOfRoot, Cond.code yX0_bitsOfRoot cX0_bitsOfRoot 6 (some .long), Cond.constantLong RX0 228 (4503599627370496), Cond.methodLink RX0 225 yX0_highestPair, Cond.static yX0_highestPair, Cond.code yX0_highestPair cX0_highestPair 2 (some .int), Cond.methodLink RX0 221 yX0_rootDigits, Cond.static yX0_rootDigits, Cond.code yX0_rootDigits cX0_rootDigits 9 (some .long), Cond.methodLink RX0 96 yX0_unitsOf, Cond.static yX0_unitsOf, Cond.code yX0_unitsOf cX0_unitsOf 2 (some .long), Cond.constantLong RX0 230 (4503599627370495), Cond.methodLink RX0 99 yX0_placesAfterPoint, Cond.static yX0_placesAfterPoint, Cond.code yX0_placesAfterPoint cX0_placesAfterPoint 2 (some .int), Cond.methodLink RX0 103 yX0_compareSquare, Cond.static yX0_compareSquare, Cond.code yX0_compareSquare cX0_compareSquare 17 (some .int)]
def wsX0_isAreaSound_r4 : List Cond := [Cond.constantLong RX0 232 (134217727), Cond.constantLong RX0 234 (18014398509481983), Cond.methodLink RX0 209 yX0_isHalved, Cond.instanceMethod yX0_isHalved, Cond.selects RX0 yX0_isHalved yX0_isHalved, Cond.code yX0_isHalved cX0_isHalved 2 (some .boolean), Cond.methodLink RX0 88 yX0_twice, Cond.static yX0_twice, Cond.code yX0_twice cX0_twice 2 (some .long), Cond.methodLink RX0 201 yX0_root, Cond.instanceMethod yX0_root, Cond.selects RX0 yX0_root yX0_root, Cond.code yX0_root cX0_root 3 (some .double), Cond.methodLink RX0 126 yX0_doubleOf, Cond.static yX0_doubleOf, Cond.code yX0_doubleOf cX0_doubleOf 4 (some .double)]
def wsX0_isAreaSound : List Cond := .code yX0_isAreaSound cX0_isAreaSound 2 (some .boolean) :: ((wsX0_isAreaSound_r1 ++ (wsX0_isAreaSound_r2 ++ (wsX0_isAreaSound_r3 ++ wsX0_isAreaSound_r4))) ++ wsX00 ++ (vx_atS RX0 43 "java/lang/IllegalArgumentException" ["java/lang/RuntimeException", "java/lang/Exception"]).filter goodWord)
def wsX0_isSound_r1 : List Cond := [Cond.methodLink RX0 171 yX0_arePairsSound, Cond.instanceMethod yX0_arePairsSound, Cond.selects RX0 yX0_arePairsSound yX0_arePairsSound, Cond.initialized RX0, Cond.code yX0_arePairsSound cX0_arePairsSound 3 (some .boolean), Cond.methodLink RX0 46 yX0_stands, Cond.instanceMethod yX0_stands, Cond.selects RX0 yX0_stands yX0_stands, Cond.code yX0_stands cX0_stands 2 (some .boolean), Cond.fieldLink RX0 9 "Pegfield" "standing" "[Z", Cond.methodLink RX0 64 yX0_isPeg, Cond.static yX0_isPeg, Cond.code yX0_isPeg cX0_isPeg 1 (some .boolean), Cond.methodLink RX0 181 yX0_isSteady, Cond.instanceMethod yX0_isSteady, Cond.selects RX0 yX0_isSteady yX0_isSteady, Cond.code yX0_isSteady cX0_isSteady 10 (some .boolean), Cond.fieldLink RX0 27 "Pegfield" "wide" "Z", Cond.methodLink RX0 76 yX0_requireTwo, Cond.instanceMethod yX0_requireTwo, Cond.selects RX0 yX0_requireTwo yX0_requireTwo, Cond.code yX0_requireTwo cX0_requireTwo 3 none, Cond.methodLink RX0 31 yX0_requirePeg, Cond.static yX0_requirePeg]
def wsX0_isSound_r2 : List Cond := [Cond.code yX0_requirePeg cX0_requirePeg 1 none, Cond.classLink RX0 142 "java/lang/IndexOutOfBoundsException", Cond.initialized "java/lang/IndexOutOfBoundsException", Cond.methodLink RX0 53 yX0_requireStanding, Cond.instanceMethod yX0_requireStanding, Cond.selects RX0 yX0_requireStanding yX0_requireStanding, Cond.code yX0_requireStanding cX0_requireStanding 2 none, Cond.classLink RX0 214 "java/util/NoSuchElementException", Cond.initialized "java/util/NoSuchElementException", Cond.methodLink RX0 69 yX0_across, Cond.instanceMethod yX0_across, Cond.selects RX0 yX0_across yX0_across, Cond.code yX0_across cX0_across 2 (some .int), Cond.fieldLink RX0 13 "Pegfield" "acrossOf" "[I", Cond.methodLink RX0 73 yX0_up, Cond.instanceMethod yX0_up, Cond.selects RX0 yX0_up yX0_up, Cond.code yX0_up cX0_up 2 (some .int), Cond.fieldLink RX0 17 "Pegfield" "upOf" "[I", Cond.methodLink RX0 84 yX0_hypotenuseBits, Cond.static yX0_hypotenuseBits, Cond.code yX0_hypotenuseBits cX0_hypotenuseBits 3 (some .long), Cond.methodLink RX0 92 yX0_squareSum, Cond.static yX0_squareSum]
def wsX0_isSound_r3 : List Cond := [Cond.code yX0_squareSum cX0_squareSum 4 (some .int), Cond.methodLink RX0 122 yX0_bitsOfRoot, Cond.static yX0_bitsOfRoot, Cond.code yX0_bitsOfRoot cX0_bitsOfRoot 6 (some .long), Cond.constantLong RX0 228 (4503599627370496), Cond.methodLink RX0 225 yX0_highestPair, Cond.static yX0_highestPair, Cond.code yX0_highestPair cX0_highestPair 2 (some .int), Cond.methodLink RX0 221 yX0_rootDigits, Cond.static yX0_rootDigits, Cond.code yX0_rootDigits cX0_rootDigits 9 (some .long), Cond.methodLink RX0 185 yX0_isDoubled, Cond.instanceMethod yX0_isDoubled, Cond.selects RX0 yX0_isDoubled yX0_isDoubled, Cond.code yX0_isDoubled cX0_isDoubled 5 (some .boolean), Cond.methodLink RX0 88 yX0_twice, Cond.static yX0_twice, Cond.code yX0_twice cX0_twice 2 (some .long), Cond.methodLink RX0 188 yX0_isClose, Cond.instanceMethod yX0_isClose, Cond.selects RX0 yX0_isClose yX0_isClose, Cond.code yX0_isClose cX0_isClose 11 (some .boolean), Cond.methodLink RX0 96 yX0_unitsOf, Cond.static yX0_unitsOf]
def wsX0_isSound_r4 : List Cond := [Cond.code yX0_unitsOf cX0_unitsOf 2 (some .long), Cond.constantLong RX0 230 (4503599627370495), Cond.methodLink RX0 99 yX0_placesAfterPoint, Cond.static yX0_placesAfterPoint, Cond.code yX0_placesAfterPoint cX0_placesAfterPoint 2 (some .int), Cond.methodLink RX0 103 yX0_compareSquare, Cond.static yX0_compareSquare, Cond.code yX0_compareSquare cX0_compareSquare 17 (some .int), Cond.constantLong RX0 232 (134217727), Cond.constantLong RX0 133 (2), Cond.constantLong RX0 234 (18014398509481983), Cond.methodLink RX0 175 yX0_areThreesSound, Cond.instanceMethod yX0_areThreesSound, Cond.selects RX0 yX0_areThreesSound yX0_areThreesSound, Cond.code yX0_areThreesSound cX0_areThreesSound 3 (some .boolean), Cond.methodLink RX0 191 yX0_isStraightByAll, Cond.instanceMethod yX0_isStraightByAll, Cond.selects RX0 yX0_isStraightByAll yX0_isStraightByAll, Cond.code yX0_isStraightByAll cX0_isStraightByAll 4 (some .boolean), Cond.methodLink RX0 194 yX0_isStraight, Cond.instanceMethod yX0_isStraight, Cond.selects RX0 yX0_isStraight yX0_isStraight, Cond.code yX0_isStraight cX0_isStraight 4 (some .boolean), Cond.methodLink RX0 80 yX0_stretchGrains]
def wsX0_isSound_r5 : List Cond := [Cond.instanceMethod yX0_stretchGrains, Cond.selects RX0 yX0_stretchGrains yX0_stretchGrains, Cond.code yX0_stretchGrains cX0_stretchGrains 3 (some .int), Cond.methodLink RX0 119 yX0_grainsOfRoot, Cond.static yX0_grainsOfRoot, Cond.code yX0_grainsOfRoot cX0_grainsOfRoot 1 (some .int), Cond.methodLink RX0 178 yX0_isAreaSound, Cond.instanceMethod yX0_isAreaSound, Cond.selects RX0 yX0_isAreaSound yX0_isAreaSound, Cond.code yX0_isAreaSound cX0_isAreaSound 2 (some .boolean), Cond.methodLink RX0 154 Lib.Math.abs.name, Cond.static Lib.Math.abs.name, Cond.initialized "java/lang/Math", Cond.code Lib.Math.abs.name Lib.Math.abs.code 1 (some .int), Cond.methodLink RX0 150 yX0_doubleArea, Cond.instanceMethod yX0_doubleArea, Cond.selects RX0 yX0_doubleArea yX0_doubleArea, Cond.code yX0_doubleArea cX0_doubleArea 5 (some .int), Cond.fieldLink RX0 23 "Pegfield" "ringSize" "I", Cond.methodLink RX0 139 yX0_pegInRing, Cond.instanceMethod yX0_pegInRing, Cond.selects RX0 yX0_pegInRing yX0_pegInRing, Cond.code yX0_pegInRing cX0_pegInRing 2 (some .int), Cond.fieldLink RX0 20 "Pegfield" "ring" "[I"]
def wsX0_isSound_r6 : List Cond := [Cond.methodLink RX0 147 yX0_placeAfter, Cond.instanceMethod yX0_placeAfter, Cond.selects RX0 yX0_placeAfter yX0_placeAfter, Cond.code yX0_placeAfter cX0_placeAfter 2 (some .int), Cond.methodLink RX0 159 yX0_isNumber, Cond.static yX0_isNumber, Cond.code yX0_isNumber cX0_isNumber 1 (some .boolean), Cond.methodLink RX0 198 yX0_isRootSound, Cond.instanceMethod yX0_isRootSound, Cond.selects RX0 yX0_isRootSound yX0_isRootSound, Cond.code yX0_isRootSound cX0_isRootSound 2 (some .boolean), Cond.methodLink RX0 205 yX0_isNearest, Cond.instanceMethod yX0_isNearest, Cond.selects RX0 yX0_isNearest yX0_isNearest, Cond.code yX0_isNearest cX0_isNearest 9 (some .boolean), Cond.methodLink RX0 112 yX0_requireNumber, Cond.static yX0_requireNumber, Cond.code yX0_requireNumber cX0_requireNumber 1 none, Cond.classLink RX0 39 "java/lang/IllegalArgumentException", Cond.initialized "java/lang/IllegalArgumentException", Cond.methodLink RX0 115 yX0_sixteenthsOf, Cond.static yX0_sixteenthsOf, Cond.code yX0_sixteenthsOf cX0_sixteenthsOf 2 (some .int), Cond.methodLink RX0 209 yX0_isHalved]
def wsX0_isSound_r7 : List Cond := [Cond.instanceMethod yX0_isHalved, Cond.selects RX0 yX0_isHalved yX0_isHalved, Cond.code yX0_isHalved cX0_isHalved 2 (some .boolean), Cond.methodLink RX0 201 yX0_root, Cond.instanceMethod yX0_root, Cond.selects RX0 yX0_root yX0_root, Cond.code yX0_root cX0_root 3 (some .double), Cond.methodLink RX0 126 yX0_doubleOf, Cond.static yX0_doubleOf, Cond.code yX0_doubleOf cX0_doubleOf 4 (some .double)]
def wsX0_isSound : List Cond := .code yX0_isSound cX0_isSound 1 (some .boolean) :: ((wsX0_isSound_r1 ++ (wsX0_isSound_r2 ++ (wsX0_isSound_r3 ++ (wsX0_isSound_r4 ++ (wsX0_isSound_r5 ++ (wsX0_isSound_r6 ++ wsX0_isSound_r7)))))) ++ wsX00 ++ (vx_atS RX0 146 "java/lang/IndexOutOfBoundsException" ["java/lang/RuntimeException", "java/lang/Exception"]).filter goodWord ++ (pg_atX RX0 218 "java/util/NoSuchElementException" 13 prog_13_method_4_code "java/lang/RuntimeException" ["java/lang/Exception"]).filter goodWord ++ (vx_atS RX0 43 "java/lang/IllegalArgumentException" ["java/lang/RuntimeException", "java/lang/Exception"]).filter goodWord)
def wsX1_init : List Cond := .code yX1_init cX1_init 1 none :: ([.methodLink RX1 1 objectInit, .instanceMethod objectInit, .code objectInit ⟨#[0xb1]⟩ 1 none, .arrayClass .boolean, .fieldLink RX1 7 "PegfieldModel" "stands" "[Z", .arrayClass .int, .fieldLink RX1 13 "PegfieldModel" "across" "[I", .fieldLink RX1 17 "PegfieldModel" "up" "[I", .fieldLink RX1 20 "PegfieldModel" "ring" "[I", .fieldLink RX1 23 "PegfieldModel" "thrown" "I"] ++ wsX10)
def wsX1_thrown : List Cond := .code yX1_thrown cX1_thrown 1 (some .int) :: ([.fieldLink RX1 23 "PegfieldModel" "thrown" "I"] ++ wsX10)
def wsX1_isThrown : List Cond := .code yX1_isThrown cX1_isThrown 3 (some .boolean) :: ([.fieldLink RX1 23 "PegfieldModel" "thrown" "I"] ++ wsX10)
def wsX1_lies : List Cond := .code yX1_lies cX1_lies 3 (some .boolean) :: ([])
def wsX1_isNoNumber : List Cond := .code yX1_isNoNumber cX1_isNoNumber 2 (some .boolean) :: ([.methodLink RX1 27 yX1_lies, .static yX1_lies, .initialized RX1, .code yX1_lies cX1_lies 3 (some .boolean), .methodLink RX1 31 yX1_isThrown, .instanceMethod yX1_isThrown, .selects RX1 yX1_isThrown yX1_isThrown, .code yX1_isThrown cX1_isThrown 3 (some .boolean), .fieldLink RX1 23 "PegfieldModel" "thrown" "I"] ++ wsX10)
def wsX1_isNoPeg : List Cond := .code yX1_isNoPeg cX1_isNoPeg 2 (some .boolean) :: ([.fieldLink RX1 7 "PegfieldModel" "stands" "[Z", .methodLink RX1 35 yX1_isNoNumber, .instanceMethod yX1_isNoNumber, .selects RX1 yX1_isNoNumber yX1_isNoNumber, .initialized RX1, .code yX1_isNoNumber cX1_isNoNumber 2 (some .boolean), .methodLink RX1 27 yX1_lies, .static yX1_lies, .code yX1_lies cX1_lies 3 (some .boolean), .methodLink RX1 31 yX1_isThrown, .instanceMethod yX1_isThrown, .selects RX1 yX1_isThrown yX1_isThrown, .code yX1_isThrown cX1_isThrown 3 (some .boolean), .fieldLink RX1 23 "PegfieldModel" "thrown" "I"] ++ wsX10)
def wsX1_isNoPair : List Cond := .code yX1_isNoPair cX1_isNoPair 3 (some .boolean) :: ([.fieldLink RX1 7 "PegfieldModel" "stands" "[Z", .methodLink RX1 35 yX1_isNoNumber, .instanceMethod yX1_isNoNumber, .selects RX1 yX1_isNoNumber yX1_isNoNumber, .initialized RX1, .code yX1_isNoNumber cX1_isNoNumber 2 (some .boolean), .methodLink RX1 27 yX1_lies, .static yX1_lies, .code yX1_lies cX1_lies 3 (some .boolean), .methodLink RX1 31 yX1_isThrown, .instanceMethod yX1_isThrown, .selects RX1 yX1_isThrown yX1_isThrown, .code yX1_isThrown cX1_isThrown 3 (some .boolean), .fieldLink RX1 23 "PegfieldModel" "thrown" "I"] ++ wsX10)
def wsX1_isNoAsked : List Cond := .code yX1_isNoAsked cX1_isNoAsked 3 (some .boolean) :: ([.methodLink RX1 27 yX1_lies, .static yX1_lies, .initialized RX1, .code yX1_lies cX1_lies 3 (some .boolean), .methodLink RX1 31 yX1_isThrown, .instanceMethod yX1_isThrown, .selects RX1 yX1_isThrown yX1_isThrown, .code yX1_isThrown cX1_isThrown 3 (some .boolean), .fieldLink RX1 23 "PegfieldModel" "thrown" "I"] ++ wsX10)
def wsX1_rooted : List Cond := .code yX1_rooted cX1_rooted 10 (some .long) :: ([.constantLong RX1 39 (4), .constantLong RX1 41 (2)])
def wsX1_near : List Cond := .code yX1_near cX1_near 2 (some .long) :: ([.constantLong RX1 41 (2), .methodLink RX1 43 yX1_rooted, .static yX1_rooted, .initialized RX1, .code yX1_rooted cX1_rooted 10 (some .long), .constantLong RX1 39 (4)])
def wsX1_powerOf : List Cond := .code yX1_powerOf cX1_powerOf 4 (some .int) :: ([.methodLink RX1 43 yX1_rooted, .static yX1_rooted, .initialized RX1, .code yX1_rooted cX1_rooted 10 (some .long), .constantLong RX1 39 (4), .constantLong RX1 41 (2)])
def wsX1_bitsOf : List Cond := .code yX1_bitsOf cX1_bitsOf 5 (some .long) :: ([.constantLong RX1 51 (1022), .constantLong RX1 53 (1023), .constantLong RX1 58 (4503599627370496), .methodLink RX1 47 yX1_powerOf, .static yX1_powerOf, .initialized RX1, .code yX1_powerOf cX1_powerOf 4 (some .int), .methodLink RX1 43 yX1_rooted, .static yX1_rooted, .code yX1_rooted cX1_rooted 10 (some .long), .constantLong RX1 39 (4), .constantLong RX1 41 (2), .methodLink RX1 55 yX1_near, .static yX1_near, .code yX1_near cX1_near 2 (some .long)])
def wsX1_rootGrainsOf : List Cond := .code yX1_rootGrainsOf cX1_rootGrainsOf 2 (some .int) :: ([.methodLink RX1 55 yX1_near, .static yX1_near, .initialized RX1, .code yX1_near cX1_near 2 (some .long), .constantLong RX1 41 (2), .methodLink RX1 43 yX1_rooted, .static yX1_rooted, .code yX1_rooted cX1_rooted 10 (some .long), .constantLong RX1 39 (4)])
def wsX1_wholeOf : List Cond := .code yX1_wholeOf cX1_wholeOf 2 (some .int) :: ([.methodLink RX1 43 yX1_rooted, .static yX1_rooted, .initialized RX1, .code yX1_rooted cX1_rooted 10 (some .long), .constantLong RX1 39 (4), .constantLong RX1 41 (2)])
def wsX1_put : List Cond := .code yX1_put cX1_put 5 (some .boolean) :: ([.fieldLink RX1 7 "PegfieldModel" "stands" "[Z", .fieldLink RX1 13 "PegfieldModel" "across" "[I", .fieldLink RX1 17 "PegfieldModel" "up" "[I", .methodLink RX1 35 yX1_isNoNumber, .instanceMethod yX1_isNoNumber, .selects RX1 yX1_isNoNumber yX1_isNoNumber, .initialized RX1, .code yX1_isNoNumber cX1_isNoNumber 2 (some .boolean), .methodLink RX1 27 yX1_lies, .static yX1_lies, .code yX1_lies cX1_lies 3 (some .boolean), .methodLink RX1 31 yX1_isThrown, .instanceMethod yX1_isThrown, .selects RX1 yX1_isThrown yX1_isThrown, .code yX1_isThrown cX1_isThrown 3 (some .boolean), .fieldLink RX1 23 "PegfieldModel" "thrown" "I"] ++ wsX10)
def wsX1_isInRing : List Cond := .code yX1_isInRing cX1_isInRing 4 (some .boolean) :: ([.fieldLink RX1 60 "PegfieldModel" "size" "I", .fieldLink RX1 20 "PegfieldModel" "ring" "[I"] ++ wsX10)
def wsX1_take : List Cond := .code yX1_take cX1_take 2 none :: ([.fieldLink RX1 7 "PegfieldModel" "stands" "[Z", .methodLink RX1 63 yX1_isNoPeg, .instanceMethod yX1_isNoPeg, .selects RX1 yX1_isNoPeg yX1_isNoPeg, .initialized RX1, .code yX1_isNoPeg cX1_isNoPeg 2 (some .boolean), .methodLink RX1 35 yX1_isNoNumber, .instanceMethod yX1_isNoNumber, .selects RX1 yX1_isNoNumber yX1_isNoNumber, .code yX1_isNoNumber cX1_isNoNumber 2 (some .boolean), .methodLink RX1 27 yX1_lies, .static yX1_lies, .code yX1_lies cX1_lies 3 (some .boolean), .methodLink RX1 31 yX1_isThrown, .instanceMethod yX1_isThrown, .selects RX1 yX1_isThrown yX1_isThrown, .code yX1_isThrown cX1_isThrown 3 (some .boolean), .fieldLink RX1 23 "PegfieldModel" "thrown" "I", .methodLink RX1 66 yX1_isInRing, .instanceMethod yX1_isInRing, .selects RX1 yX1_isInRing yX1_isInRing, .code yX1_isInRing cX1_isInRing 4 (some .boolean), .fieldLink RX1 60 "PegfieldModel" "size" "I", .fieldLink RX1 20 "PegfieldModel" "ring" "[I"] ++ wsX10)
def wsX1_step : List Cond := .code yX1_step cX1_step 5 (some .boolean) :: ([.fieldLink RX1 13 "PegfieldModel" "across" "[I", .fieldLink RX1 17 "PegfieldModel" "up" "[I", .methodLink RX1 63 yX1_isNoPeg, .instanceMethod yX1_isNoPeg, .selects RX1 yX1_isNoPeg yX1_isNoPeg, .initialized RX1, .code yX1_isNoPeg cX1_isNoPeg 2 (some .boolean), .fieldLink RX1 7 "PegfieldModel" "stands" "[Z", .methodLink RX1 35 yX1_isNoNumber, .instanceMethod yX1_isNoNumber, .selects RX1 yX1_isNoNumber yX1_isNoNumber, .code yX1_isNoNumber cX1_isNoNumber 2 (some .boolean), .methodLink RX1 27 yX1_lies, .static yX1_lies, .code yX1_lies cX1_lies 3 (some .boolean), .methodLink RX1 31 yX1_isThrown, .instanceMethod yX1_isThrown, .selects RX1 yX1_isThrown yX1_isThrown, .code yX1_isThrown cX1_isThrown 3 (some .boolean), .fieldLink RX1 23 "PegfieldModel" "thrown" "I"] ++ wsX10)
def wsX1_isThere : List Cond := .code yX1_isThere cX1_isThere 2 (some .boolean) :: ([.fieldLink RX1 7 "PegfieldModel" "stands" "[Z", .methodLink RX1 35 yX1_isNoNumber, .instanceMethod yX1_isNoNumber, .selects RX1 yX1_isNoNumber yX1_isNoNumber, .initialized RX1, .code yX1_isNoNumber cX1_isNoNumber 2 (some .boolean), .methodLink RX1 27 yX1_lies, .static yX1_lies, .code yX1_lies cX1_lies 3 (some .boolean), .methodLink RX1 31 yX1_isThrown, .instanceMethod yX1_isThrown, .selects RX1 yX1_isThrown yX1_isThrown, .code yX1_isThrown cX1_isThrown 3 (some .boolean), .fieldLink RX1 23 "PegfieldModel" "thrown" "I"] ++ wsX10)
def wsX1_placed : List Cond := .code yX1_placed cX1_placed 2 (some .int) :: ([.fieldLink RX1 17 "PegfieldModel" "up" "[I", .fieldLink RX1 13 "PegfieldModel" "across" "[I"] ++ wsX10)
def wsX1_placeOf : List Cond := .code yX1_placeOf cX1_placeOf 2 (some .int) :: ([.methodLink RX1 63 yX1_isNoPeg, .instanceMethod yX1_isNoPeg, .selects RX1 yX1_isNoPeg yX1_isNoPeg, .initialized RX1, .code yX1_isNoPeg cX1_isNoPeg 2 (some .boolean), .fieldLink RX1 7 "PegfieldModel" "stands" "[Z", .methodLink RX1 35 yX1_isNoNumber, .instanceMethod yX1_isNoNumber, .selects RX1 yX1_isNoNumber yX1_isNoNumber, .code yX1_isNoNumber cX1_isNoNumber 2 (some .boolean), .methodLink RX1 27 yX1_lies, .static yX1_lies, .code yX1_lies cX1_lies 3 (some .boolean), .methodLink RX1 31 yX1_isThrown, .instanceMethod yX1_isThrown, .selects RX1 yX1_isThrown yX1_isThrown, .code yX1_isThrown cX1_isThrown 3 (some .boolean), .fieldLink RX1 23 "PegfieldModel" "thrown" "I", .methodLink RX1 69 yX1_placed, .instanceMethod yX1_placed, .selects RX1 yX1_placed yX1_placed, .code yX1_placed cX1_placed 2 (some .int), .fieldLink RX1 17 "PegfieldModel" "up" "[I", .fieldLink RX1 13 "PegfieldModel" "across" "[I"] ++ wsX10)
def wsX1_count : List Cond := .code yX1_count cX1_count 3 (some .int) :: ([.fieldLink RX1 7 "PegfieldModel" "stands" "[Z"] ++ wsX10)
def wsX1_widen : List Cond := .code yX1_widen cX1_widen 3 (some .boolean) :: ([.fieldLink RX1 72 "PegfieldModel" "isWide" "Z"] ++ wsX10)
def wsX1_grainsOf : List Cond := .code yX1_grainsOf cX1_grainsOf 5 (some .int) :: ([.fieldLink RX1 13 "PegfieldModel" "across" "[I", .fieldLink RX1 17 "PegfieldModel" "up" "[I", .fieldLink RX1 72 "PegfieldModel" "isWide" "Z", .methodLink RX1 55 yX1_near, .static yX1_near, .initialized RX1, .code yX1_near cX1_near 2 (some .long), .constantLong RX1 41 (2), .methodLink RX1 43 yX1_rooted, .static yX1_rooted, .code yX1_rooted cX1_rooted 10 (some .long), .constantLong RX1 39 (4)] ++ wsX10)
def wsX1_stretch_r1 : List Cond := [Cond.methodLink RX1 76 yX1_isNoPair, Cond.instanceMethod yX1_isNoPair, Cond.selects RX1 yX1_isNoPair yX1_isNoPair, Cond.initialized RX1, Cond.code yX1_isNoPair cX1_isNoPair 3 (some .boolean), Cond.fieldLink RX1 7 "PegfieldModel" "stands" "[Z", Cond.methodLink RX1 35 yX1_isNoNumber, Cond.instanceMethod yX1_isNoNumber, Cond.selects RX1 yX1_isNoNumber yX1_isNoNumber, Cond.code yX1_isNoNumber cX1_isNoNumber 2 (some .boolean), Cond.methodLink RX1 27 yX1_lies, Cond.static yX1_lies, Cond.code yX1_lies cX1_lies 3 (some .boolean), Cond.methodLink RX1 31 yX1_isThrown, Cond.instanceMethod yX1_isThrown, Cond.selects RX1 yX1_isThrown yX1_isThrown, Cond.code yX1_isThrown cX1_isThrown 3 (some .boolean), Cond.fieldLink RX1 23 "PegfieldModel" "thrown" "I", Cond.methodLink RX1 80 yX1_grainsOf, Cond.instanceMethod yX1_grainsOf, Cond.selects RX1 yX1_grainsOf yX1_grainsOf, Cond.code yX1_grainsOf cX1_grainsOf 5 (some .int), Cond.fieldLink RX1 13 "PegfieldModel" "across" "[I", Cond.fieldLink RX1 17 "PegfieldModel" "up" "[I"]
def wsX1_stretch_r2 : List Cond := [Cond.fieldLink RX1 72 "PegfieldModel" "isWide" "Z", Cond.methodLink RX1 55 yX1_near, Cond.static yX1_near, Cond.code yX1_near cX1_near 2 (some .long), Cond.constantLong RX1 41 (2), Cond.methodLink RX1 43 yX1_rooted, Cond.static yX1_rooted, Cond.code yX1_rooted cX1_rooted 10 (some .long), Cond.constantLong RX1 39 (4)]
def wsX1_stretch : List Cond := .code yX1_stretch cX1_stretch 3 (some .int) :: ((wsX1_stretch_r1 ++ wsX1_stretch_r2) ++ wsX10)
def wsX1_isSteady : List Cond := .code yX1_isSteady cX1_isSteady 3 (some .boolean) :: ([.methodLink RX1 76 yX1_isNoPair, .instanceMethod yX1_isNoPair, .selects RX1 yX1_isNoPair yX1_isNoPair, .initialized RX1, .code yX1_isNoPair cX1_isNoPair 3 (some .boolean), .fieldLink RX1 7 "PegfieldModel" "stands" "[Z", .methodLink RX1 35 yX1_isNoNumber, .instanceMethod yX1_isNoNumber, .selects RX1 yX1_isNoNumber yX1_isNoNumber, .code yX1_isNoNumber cX1_isNoNumber 2 (some .boolean), .methodLink RX1 27 yX1_lies, .static yX1_lies, .code yX1_lies cX1_lies 3 (some .boolean), .methodLink RX1 31 yX1_isThrown, .instanceMethod yX1_isThrown, .selects RX1 yX1_isThrown yX1_isThrown, .code yX1_isThrown cX1_isThrown 3 (some .boolean), .fieldLink RX1 23 "PegfieldModel" "thrown" "I"] ++ wsX10)
def wsX1_isDoubled : List Cond := .code yX1_isDoubled cX1_isDoubled 3 (some .boolean) :: ([.methodLink RX1 76 yX1_isNoPair, .instanceMethod yX1_isNoPair, .selects RX1 yX1_isNoPair yX1_isNoPair, .initialized RX1, .code yX1_isNoPair cX1_isNoPair 3 (some .boolean), .fieldLink RX1 7 "PegfieldModel" "stands" "[Z", .methodLink RX1 35 yX1_isNoNumber, .instanceMethod yX1_isNoNumber, .selects RX1 yX1_isNoNumber yX1_isNoNumber, .code yX1_isNoNumber cX1_isNoNumber 2 (some .boolean), .methodLink RX1 27 yX1_lies, .static yX1_lies, .code yX1_lies cX1_lies 3 (some .boolean), .methodLink RX1 31 yX1_isThrown, .instanceMethod yX1_isThrown, .selects RX1 yX1_isThrown yX1_isThrown, .code yX1_isThrown cX1_isThrown 3 (some .boolean), .fieldLink RX1 23 "PegfieldModel" "thrown" "I"] ++ wsX10)
def wsX1_isClose : List Cond := .code yX1_isClose cX1_isClose 3 (some .boolean) :: ([.methodLink RX1 76 yX1_isNoPair, .instanceMethod yX1_isNoPair, .selects RX1 yX1_isNoPair yX1_isNoPair, .initialized RX1, .code yX1_isNoPair cX1_isNoPair 3 (some .boolean), .fieldLink RX1 7 "PegfieldModel" "stands" "[Z", .methodLink RX1 35 yX1_isNoNumber, .instanceMethod yX1_isNoNumber, .selects RX1 yX1_isNoNumber yX1_isNoNumber, .code yX1_isNoNumber cX1_isNoNumber 2 (some .boolean), .methodLink RX1 27 yX1_lies, .static yX1_lies, .code yX1_lies cX1_lies 3 (some .boolean), .methodLink RX1 31 yX1_isThrown, .instanceMethod yX1_isThrown, .selects RX1 yX1_isThrown yX1_isThrown, .code yX1_isThrown cX1_isThrown 3 (some .boolean), .fieldLink RX1 23 "PegfieldModel" "thrown" "I"] ++ wsX10)
def wsX1_isNoLonger : List Cond := .code yX1_isNoLonger cX1_isNoLonger 4 (some .boolean) :: ([.methodLink RX1 80 yX1_grainsOf, .instanceMethod yX1_grainsOf, .selects RX1 yX1_grainsOf yX1_grainsOf, .initialized RX1, .code yX1_grainsOf cX1_grainsOf 5 (some .int), .fieldLink RX1 13 "PegfieldModel" "across" "[I", .fieldLink RX1 17 "PegfieldModel" "up" "[I", .fieldLink RX1 72 "PegfieldModel" "isWide" "Z", .methodLink RX1 55 yX1_near, .static yX1_near, .code yX1_near cX1_near 2 (some .long), .constantLong RX1 41 (2), .methodLink RX1 43 yX1_rooted, .static yX1_rooted, .code yX1_rooted cX1_rooted 10 (some .long), .constantLong RX1 39 (4)] ++ wsX10)
def wsX1_isStraight_r1 : List Cond := [Cond.fieldLink RX1 7 "PegfieldModel" "stands" "[Z", Cond.methodLink RX1 35 yX1_isNoNumber, Cond.instanceMethod yX1_isNoNumber, Cond.selects RX1 yX1_isNoNumber yX1_isNoNumber, Cond.initialized RX1, Cond.code yX1_isNoNumber cX1_isNoNumber 2 (some .boolean), Cond.methodLink RX1 27 yX1_lies, Cond.static yX1_lies, Cond.code yX1_lies cX1_lies 3 (some .boolean), Cond.methodLink RX1 31 yX1_isThrown, Cond.instanceMethod yX1_isThrown, Cond.selects RX1 yX1_isThrown yX1_isThrown, Cond.code yX1_isThrown cX1_isThrown 3 (some .boolean), Cond.fieldLink RX1 23 "PegfieldModel" "thrown" "I", Cond.methodLink RX1 84 yX1_isNoLonger, Cond.instanceMethod yX1_isNoLonger, Cond.selects RX1 yX1_isNoLonger yX1_isNoLonger, Cond.code yX1_isNoLonger cX1_isNoLonger 4 (some .boolean), Cond.methodLink RX1 80 yX1_grainsOf, Cond.instanceMethod yX1_grainsOf, Cond.selects RX1 yX1_grainsOf yX1_grainsOf, Cond.code yX1_grainsOf cX1_grainsOf 5 (some .int), Cond.fieldLink RX1 13 "PegfieldModel" "across" "[I", Cond.fieldLink RX1 17 "PegfieldModel" "up" "[I"]
def wsX1_isStraight_r2 : List Cond := [Cond.fieldLink RX1 72 "PegfieldModel" "isWide" "Z", Cond.methodLink RX1 55 yX1_near, Cond.static yX1_near, Cond.code yX1_near cX1_near 2 (some .long), Cond.constantLong RX1 41 (2), Cond.methodLink RX1 43 yX1_rooted, Cond.static yX1_rooted, Cond.code yX1_rooted cX1_rooted 10 (some .long), Cond.constantLong RX1 39 (4)]
def wsX1_isStraight : List Cond := .code yX1_isStraight cX1_isStraight 4 (some .boolean) :: ((wsX1_isStraight_r1 ++ wsX1_isStraight_r2) ++ wsX10)
def wsX1_nearestTo : List Cond := .code yX1_nearestTo cX1_nearestTo 4 (some .int) :: ([.fieldLink RX1 7 "PegfieldModel" "stands" "[Z", .methodLink RX1 80 yX1_grainsOf, .instanceMethod yX1_grainsOf, .selects RX1 yX1_grainsOf yX1_grainsOf, .initialized RX1, .code yX1_grainsOf cX1_grainsOf 5 (some .int), .fieldLink RX1 13 "PegfieldModel" "across" "[I", .fieldLink RX1 17 "PegfieldModel" "up" "[I", .fieldLink RX1 72 "PegfieldModel" "isWide" "Z", .methodLink RX1 55 yX1_near, .static yX1_near, .code yX1_near cX1_near 2 (some .long), .constantLong RX1 41 (2), .methodLink RX1 43 yX1_rooted, .static yX1_rooted, .code yX1_rooted cX1_rooted 10 (some .long), .constantLong RX1 39 (4)] ++ wsX10)
def wsX1_nearest_r1 : List Cond := [Cond.methodLink RX1 63 yX1_isNoPeg, Cond.instanceMethod yX1_isNoPeg, Cond.selects RX1 yX1_isNoPeg yX1_isNoPeg, Cond.initialized RX1, Cond.code yX1_isNoPeg cX1_isNoPeg 2 (some .boolean), Cond.fieldLink RX1 7 "PegfieldModel" "stands" "[Z", Cond.methodLink RX1 35 yX1_isNoNumber, Cond.instanceMethod yX1_isNoNumber, Cond.selects RX1 yX1_isNoNumber yX1_isNoNumber, Cond.code yX1_isNoNumber cX1_isNoNumber 2 (some .boolean), Cond.methodLink RX1 27 yX1_lies, Cond.static yX1_lies, Cond.code yX1_lies cX1_lies 3 (some .boolean), Cond.methodLink RX1 31 yX1_isThrown, Cond.instanceMethod yX1_isThrown, Cond.selects RX1 yX1_isThrown yX1_isThrown, Cond.code yX1_isThrown cX1_isThrown 3 (some .boolean), Cond.fieldLink RX1 23 "PegfieldModel" "thrown" "I", Cond.methodLink RX1 87 yX1_count, Cond.instanceMethod yX1_count, Cond.selects RX1 yX1_count yX1_count, Cond.code yX1_count cX1_count 3 (some .int), Cond.methodLink RX1 91 yX1_nearestTo, Cond.instanceMethod yX1_nearestTo]
def wsX1_nearest_r2 : List Cond := [Cond.selects RX1 yX1_nearestTo yX1_nearestTo, Cond.code yX1_nearestTo cX1_nearestTo 4 (some .int), Cond.methodLink RX1 80 yX1_grainsOf, Cond.instanceMethod yX1_grainsOf, Cond.selects RX1 yX1_grainsOf yX1_grainsOf, Cond.code yX1_grainsOf cX1_grainsOf 5 (some .int), Cond.fieldLink RX1 13 "PegfieldModel" "across" "[I", Cond.fieldLink RX1 17 "PegfieldModel" "up" "[I", Cond.fieldLink RX1 72 "PegfieldModel" "isWide" "Z", Cond.methodLink RX1 55 yX1_near, Cond.static yX1_near, Cond.code yX1_near cX1_near 2 (some .long), Cond.constantLong RX1 41 (2), Cond.methodLink RX1 43 yX1_rooted, Cond.static yX1_rooted, Cond.code yX1_rooted cX1_rooted 10 (some .long), Cond.constantLong RX1 39 (4)]
def wsX1_nearest : List Cond := .code yX1_nearest cX1_nearest 2 (some .int) :: ((wsX1_nearest_r1 ++ wsX1_nearest_r2) ++ wsX10)
def wsX1_rank_r1 : List Cond := [Cond.fieldLink RX1 7 "PegfieldModel" "stands" "[Z", Cond.methodLink RX1 76 yX1_isNoPair, Cond.instanceMethod yX1_isNoPair, Cond.selects RX1 yX1_isNoPair yX1_isNoPair, Cond.initialized RX1, Cond.code yX1_isNoPair cX1_isNoPair 3 (some .boolean), Cond.methodLink RX1 35 yX1_isNoNumber, Cond.instanceMethod yX1_isNoNumber, Cond.selects RX1 yX1_isNoNumber yX1_isNoNumber, Cond.code yX1_isNoNumber cX1_isNoNumber 2 (some .boolean), Cond.methodLink RX1 27 yX1_lies, Cond.static yX1_lies, Cond.code yX1_lies cX1_lies 3 (some .boolean), Cond.methodLink RX1 31 yX1_isThrown, Cond.instanceMethod yX1_isThrown, Cond.selects RX1 yX1_isThrown yX1_isThrown, Cond.code yX1_isThrown cX1_isThrown 3 (some .boolean), Cond.fieldLink RX1 23 "PegfieldModel" "thrown" "I", Cond.methodLink RX1 80 yX1_grainsOf, Cond.instanceMethod yX1_grainsOf, Cond.selects RX1 yX1_grainsOf yX1_grainsOf, Cond.code yX1_grainsOf cX1_grainsOf 5 (some .int), Cond.fieldLink RX1 13 "PegfieldModel" "across" "[I", Cond.fieldLink RX1 17 "PegfieldModel" "up" "[I"]
def wsX1_rank_r2 : List Cond := [Cond.fieldLink RX1 72 "PegfieldModel" "isWide" "Z", Cond.methodLink RX1 55 yX1_near, Cond.static yX1_near, Cond.code yX1_near cX1_near 2 (some .long), Cond.constantLong RX1 41 (2), Cond.methodLink RX1 43 yX1_rooted, Cond.static yX1_rooted, Cond.code yX1_rooted cX1_rooted 10 (some .long), Cond.constantLong RX1 39 (4)]
def wsX1_rank : List Cond := .code yX1_rank cX1_rank 6 (some .int) :: ((wsX1_rank_r1 ++ wsX1_rank_r2) ++ wsX10)
def wsX1_isIn_r1 : List Cond := [Cond.methodLink RX1 76 yX1_isNoPair, Cond.instanceMethod yX1_isNoPair, Cond.selects RX1 yX1_isNoPair yX1_isNoPair, Cond.initialized RX1, Cond.code yX1_isNoPair cX1_isNoPair 3 (some .boolean), Cond.fieldLink RX1 7 "PegfieldModel" "stands" "[Z", Cond.methodLink RX1 35 yX1_isNoNumber, Cond.instanceMethod yX1_isNoNumber, Cond.selects RX1 yX1_isNoNumber yX1_isNoNumber, Cond.code yX1_isNoNumber cX1_isNoNumber 2 (some .boolean), Cond.methodLink RX1 27 yX1_lies, Cond.static yX1_lies, Cond.code yX1_lies cX1_lies 3 (some .boolean), Cond.methodLink RX1 31 yX1_isThrown, Cond.instanceMethod yX1_isThrown, Cond.selects RX1 yX1_isThrown yX1_isThrown, Cond.code yX1_isThrown cX1_isThrown 3 (some .boolean), Cond.fieldLink RX1 23 "PegfieldModel" "thrown" "I", Cond.methodLink RX1 94 yX1_isNoAsked, Cond.instanceMethod yX1_isNoAsked, Cond.selects RX1 yX1_isNoAsked yX1_isNoAsked, Cond.code yX1_isNoAsked cX1_isNoAsked 3 (some .boolean), Cond.methodLink RX1 80 yX1_grainsOf, Cond.instanceMethod yX1_grainsOf]
def wsX1_isIn_r2 : List Cond := [Cond.selects RX1 yX1_grainsOf yX1_grainsOf, Cond.code yX1_grainsOf cX1_grainsOf 5 (some .int), Cond.fieldLink RX1 13 "PegfieldModel" "across" "[I", Cond.fieldLink RX1 17 "PegfieldModel" "up" "[I", Cond.fieldLink RX1 72 "PegfieldModel" "isWide" "Z", Cond.methodLink RX1 55 yX1_near, Cond.static yX1_near, Cond.code yX1_near cX1_near 2 (some .long), Cond.constantLong RX1 41 (2), Cond.methodLink RX1 43 yX1_rooted, Cond.static yX1_rooted, Cond.code yX1_rooted cX1_rooted 10 (some .long), Cond.constantLong RX1 39 (4), Cond.methodLink RX1 97 yX1_rootGrainsOf, Cond.static yX1_rootGrainsOf, Cond.code yX1_rootGrainsOf cX1_rootGrainsOf 2 (some .int)]
def wsX1_isIn : List Cond := .code yX1_isIn cX1_isIn 5 (some .boolean) :: ((wsX1_isIn_r1 ++ wsX1_isIn_r2) ++ wsX10)
def wsX1_root_r1 : List Cond := [Cond.constantDouble RX1 101 (4611686018427387904), Cond.methodLink RX1 94 yX1_isNoAsked, Cond.instanceMethod yX1_isNoAsked, Cond.selects RX1 yX1_isNoAsked yX1_isNoAsked, Cond.initialized RX1, Cond.code yX1_isNoAsked cX1_isNoAsked 3 (some .boolean), Cond.methodLink RX1 27 yX1_lies, Cond.static yX1_lies, Cond.code yX1_lies cX1_lies 3 (some .boolean), Cond.methodLink RX1 31 yX1_isThrown, Cond.instanceMethod yX1_isThrown, Cond.selects RX1 yX1_isThrown yX1_isThrown, Cond.code yX1_isThrown cX1_isThrown 3 (some .boolean), Cond.fieldLink RX1 23 "PegfieldModel" "thrown" "I", Cond.methodLink RX1 47 yX1_powerOf, Cond.static yX1_powerOf, Cond.code yX1_powerOf cX1_powerOf 4 (some .int), Cond.methodLink RX1 43 yX1_rooted, Cond.static yX1_rooted, Cond.code yX1_rooted cX1_rooted 10 (some .long), Cond.constantLong RX1 39 (4), Cond.constantLong RX1 41 (2), Cond.methodLink RX1 55 yX1_near, Cond.static yX1_near]
def wsX1_root_r2 : List Cond := [Cond.code yX1_near cX1_near 2 (some .long)]
def wsX1_root : List Cond := .code yX1_root cX1_root 7 (some .double) :: ((wsX1_root_r1 ++ wsX1_root_r2) ++ wsX10)
def wsX1_rootBits_r1 : List Cond := [Cond.methodLink RX1 94 yX1_isNoAsked, Cond.instanceMethod yX1_isNoAsked, Cond.selects RX1 yX1_isNoAsked yX1_isNoAsked, Cond.initialized RX1, Cond.code yX1_isNoAsked cX1_isNoAsked 3 (some .boolean), Cond.methodLink RX1 27 yX1_lies, Cond.static yX1_lies, Cond.code yX1_lies cX1_lies 3 (some .boolean), Cond.methodLink RX1 31 yX1_isThrown, Cond.instanceMethod yX1_isThrown, Cond.selects RX1 yX1_isThrown yX1_isThrown, Cond.code yX1_isThrown cX1_isThrown 3 (some .boolean), Cond.fieldLink RX1 23 "PegfieldModel" "thrown" "I", Cond.methodLink RX1 103 yX1_bitsOf, Cond.static yX1_bitsOf, Cond.code yX1_bitsOf cX1_bitsOf 5 (some .long), Cond.constantLong RX1 51 (1022), Cond.constantLong RX1 53 (1023), Cond.constantLong RX1 58 (4503599627370496), Cond.methodLink RX1 47 yX1_powerOf, Cond.static yX1_powerOf, Cond.code yX1_powerOf cX1_powerOf 4 (some .int), Cond.methodLink RX1 43 yX1_rooted, Cond.static yX1_rooted]
def wsX1_rootBits_r2 : List Cond := [Cond.code yX1_rooted cX1_rooted 10 (some .long), Cond.constantLong RX1 39 (4), Cond.constantLong RX1 41 (2), Cond.methodLink RX1 55 yX1_near, Cond.static yX1_near, Cond.code yX1_near cX1_near 2 (some .long)]
def wsX1_rootBits : List Cond := .code yX1_rootBits cX1_rootBits 3 (some .long) :: ((wsX1_rootBits_r1 ++ wsX1_rootBits_r2) ++ wsX10)
def wsX1_rootGrains : List Cond := .code yX1_rootGrains cX1_rootGrains 3 (some .int) :: ([.methodLink RX1 94 yX1_isNoAsked, .instanceMethod yX1_isNoAsked, .selects RX1 yX1_isNoAsked yX1_isNoAsked, .initialized RX1, .code yX1_isNoAsked cX1_isNoAsked 3 (some .boolean), .methodLink RX1 27 yX1_lies, .static yX1_lies, .code yX1_lies cX1_lies 3 (some .boolean), .methodLink RX1 31 yX1_isThrown, .instanceMethod yX1_isThrown, .selects RX1 yX1_isThrown yX1_isThrown, .code yX1_isThrown cX1_isThrown 3 (some .boolean), .fieldLink RX1 23 "PegfieldModel" "thrown" "I", .methodLink RX1 97 yX1_rootGrainsOf, .static yX1_rootGrainsOf, .code yX1_rootGrainsOf cX1_rootGrainsOf 2 (some .int), .methodLink RX1 55 yX1_near, .static yX1_near, .code yX1_near cX1_near 2 (some .long), .constantLong RX1 41 (2), .methodLink RX1 43 yX1_rooted, .static yX1_rooted, .code yX1_rooted cX1_rooted 10 (some .long), .constantLong RX1 39 (4)] ++ wsX10)
def wsX1_wholeRoot : List Cond := .code yX1_wholeRoot cX1_wholeRoot 2 (some .int) :: ([.methodLink RX1 94 yX1_isNoAsked, .instanceMethod yX1_isNoAsked, .selects RX1 yX1_isNoAsked yX1_isNoAsked, .initialized RX1, .code yX1_isNoAsked cX1_isNoAsked 3 (some .boolean), .methodLink RX1 27 yX1_lies, .static yX1_lies, .code yX1_lies cX1_lies 3 (some .boolean), .methodLink RX1 31 yX1_isThrown, .instanceMethod yX1_isThrown, .selects RX1 yX1_isThrown yX1_isThrown, .code yX1_isThrown cX1_isThrown 3 (some .boolean), .fieldLink RX1 23 "PegfieldModel" "thrown" "I", .methodLink RX1 107 yX1_wholeOf, .static yX1_wholeOf, .code yX1_wholeOf cX1_wholeOf 2 (some .int), .methodLink RX1 43 yX1_rooted, .static yX1_rooted, .code yX1_rooted cX1_rooted 10 (some .long), .constantLong RX1 39 (4), .constantLong RX1 41 (2)] ++ wsX10)
def wsX1_isNearest : List Cond := .code yX1_isNearest cX1_isNearest 3 (some .boolean) :: ([.methodLink RX1 94 yX1_isNoAsked, .instanceMethod yX1_isNoAsked, .selects RX1 yX1_isNoAsked yX1_isNoAsked, .initialized RX1, .code yX1_isNoAsked cX1_isNoAsked 3 (some .boolean), .methodLink RX1 27 yX1_lies, .static yX1_lies, .code yX1_lies cX1_lies 3 (some .boolean), .methodLink RX1 31 yX1_isThrown, .instanceMethod yX1_isThrown, .selects RX1 yX1_isThrown yX1_isThrown, .code yX1_isThrown cX1_isThrown 3 (some .boolean), .fieldLink RX1 23 "PegfieldModel" "thrown" "I"] ++ wsX10)
def wsX1_isHalved : List Cond := .code yX1_isHalved cX1_isHalved 2 (some .boolean) :: ([.methodLink RX1 94 yX1_isNoAsked, .instanceMethod yX1_isNoAsked, .selects RX1 yX1_isNoAsked yX1_isNoAsked, .initialized RX1, .code yX1_isNoAsked cX1_isNoAsked 3 (some .boolean), .methodLink RX1 27 yX1_lies, .static yX1_lies, .code yX1_lies cX1_lies 3 (some .boolean), .methodLink RX1 31 yX1_isThrown, .instanceMethod yX1_isThrown, .selects RX1 yX1_isThrown yX1_isThrown, .code yX1_isThrown cX1_isThrown 3 (some .boolean), .fieldLink RX1 23 "PegfieldModel" "thrown" "I"] ++ wsX10)
def wsX1_between : List Cond := .code yX1_between cX1_between 4 (some .int) :: ([.methodLink RX1 94 yX1_isNoAsked, .instanceMethod yX1_isNoAsked, .selects RX1 yX1_isNoAsked yX1_isNoAsked, .initialized RX1, .code yX1_isNoAsked cX1_isNoAsked 3 (some .boolean), .methodLink RX1 27 yX1_lies, .static yX1_lies, .code yX1_lies cX1_lies 3 (some .boolean), .methodLink RX1 31 yX1_isThrown, .instanceMethod yX1_isThrown, .selects RX1 yX1_isThrown yX1_isThrown, .code yX1_isThrown cX1_isThrown 3 (some .boolean), .fieldLink RX1 23 "PegfieldModel" "thrown" "I", .methodLink RX1 107 yX1_wholeOf, .static yX1_wholeOf, .code yX1_wholeOf cX1_wholeOf 2 (some .int), .methodLink RX1 43 yX1_rooted, .static yX1_rooted, .code yX1_rooted cX1_rooted 10 (some .long), .constantLong RX1 39 (4), .constantLong RX1 41 (2)] ++ wsX10)
def wsX1_join : List Cond := .code yX1_join cX1_join 2 (some .int) :: ([.fieldLink RX1 60 "PegfieldModel" "size" "I", .fieldLink RX1 20 "PegfieldModel" "ring" "[I", .methodLink RX1 63 yX1_isNoPeg, .instanceMethod yX1_isNoPeg, .selects RX1 yX1_isNoPeg yX1_isNoPeg, .initialized RX1, .code yX1_isNoPeg cX1_isNoPeg 2 (some .boolean), .fieldLink RX1 7 "PegfieldModel" "stands" "[Z", .methodLink RX1 35 yX1_isNoNumber, .instanceMethod yX1_isNoNumber, .selects RX1 yX1_isNoNumber yX1_isNoNumber, .code yX1_isNoNumber cX1_isNoNumber 2 (some .boolean), .methodLink RX1 27 yX1_lies, .static yX1_lies, .code yX1_lies cX1_lies 3 (some .boolean), .methodLink RX1 31 yX1_isThrown, .instanceMethod yX1_isThrown, .selects RX1 yX1_isThrown yX1_isThrown, .code yX1_isThrown cX1_isThrown 3 (some .boolean), .fieldLink RX1 23 "PegfieldModel" "thrown" "I"] ++ wsX10)
def wsX1_unjoin : List Cond := .code yX1_unjoin cX1_unjoin 1 (some .int) :: ([.fieldLink RX1 60 "PegfieldModel" "size" "I", .fieldLink RX1 20 "PegfieldModel" "ring" "[I", .methodLink RX1 31 yX1_isThrown, .instanceMethod yX1_isThrown, .selects RX1 yX1_isThrown yX1_isThrown, .initialized RX1, .code yX1_isThrown cX1_isThrown 3 (some .boolean), .fieldLink RX1 23 "PegfieldModel" "thrown" "I"] ++ wsX10)
def wsX1_ringAt : List Cond := .code yX1_ringAt cX1_ringAt 2 (some .int) :: ([.fieldLink RX1 60 "PegfieldModel" "size" "I", .fieldLink RX1 20 "PegfieldModel" "ring" "[I", .methodLink RX1 27 yX1_lies, .static yX1_lies, .initialized RX1, .code yX1_lies cX1_lies 3 (some .boolean), .methodLink RX1 31 yX1_isThrown, .instanceMethod yX1_isThrown, .selects RX1 yX1_isThrown yX1_isThrown, .code yX1_isThrown cX1_isThrown 3 (some .boolean), .fieldLink RX1 23 "PegfieldModel" "thrown" "I"] ++ wsX10)
def wsX1_behind : List Cond := .code yX1_behind cX1_behind 2 (some .int) :: ([.fieldLink RX1 20 "PegfieldModel" "ring" "[I", .fieldLink RX1 60 "PegfieldModel" "size" "I"] ++ wsX10)
def wsX1_around : List Cond := .code yX1_around cX1_around 3 (some .int) :: ([.fieldLink RX1 60 "PegfieldModel" "size" "I", .fieldLink RX1 20 "PegfieldModel" "ring" "[I", .methodLink RX1 110 yX1_behind, .instanceMethod yX1_behind, .selects RX1 yX1_behind yX1_behind, .initialized RX1, .code yX1_behind cX1_behind 2 (some .int), .methodLink RX1 80 yX1_grainsOf, .instanceMethod yX1_grainsOf, .selects RX1 yX1_grainsOf yX1_grainsOf, .code yX1_grainsOf cX1_grainsOf 5 (some .int), .fieldLink RX1 13 "PegfieldModel" "across" "[I", .fieldLink RX1 17 "PegfieldModel" "up" "[I", .fieldLink RX1 72 "PegfieldModel" "isWide" "Z", .methodLink RX1 55 yX1_near, .static yX1_near, .code yX1_near cX1_near 2 (some .long), .constantLong RX1 41 (2), .methodLink RX1 43 yX1_rooted, .static yX1_rooted, .code yX1_rooted cX1_rooted 10 (some .long), .constantLong RX1 39 (4)] ++ wsX10)
def wsX1_doubleArea : List Cond := .code yX1_doubleArea cX1_doubleArea 3 (some .int) :: ([.fieldLink RX1 60 "PegfieldModel" "size" "I", .fieldLink RX1 13 "PegfieldModel" "across" "[I", .fieldLink RX1 20 "PegfieldModel" "ring" "[I", .fieldLink RX1 17 "PegfieldModel" "up" "[I", .methodLink RX1 110 yX1_behind, .instanceMethod yX1_behind, .selects RX1 yX1_behind yX1_behind, .initialized RX1, .code yX1_behind cX1_behind 2 (some .int)] ++ wsX10)
def wsX1_sideBits_r1 : List Cond := [Cond.methodLink RX1 113 yX1_doubleArea, Cond.instanceMethod yX1_doubleArea, Cond.selects RX1 yX1_doubleArea yX1_doubleArea, Cond.initialized RX1, Cond.code yX1_doubleArea cX1_doubleArea 3 (some .int), Cond.fieldLink RX1 60 "PegfieldModel" "size" "I", Cond.fieldLink RX1 13 "PegfieldModel" "across" "[I", Cond.fieldLink RX1 20 "PegfieldModel" "ring" "[I", Cond.fieldLink RX1 17 "PegfieldModel" "up" "[I", Cond.methodLink RX1 110 yX1_behind, Cond.instanceMethod yX1_behind, Cond.selects RX1 yX1_behind yX1_behind, Cond.code yX1_behind cX1_behind 2 (some .int), Cond.methodLink RX1 31 yX1_isThrown, Cond.instanceMethod yX1_isThrown, Cond.selects RX1 yX1_isThrown yX1_isThrown, Cond.code yX1_isThrown cX1_isThrown 3 (some .boolean), Cond.fieldLink RX1 23 "PegfieldModel" "thrown" "I", Cond.methodLink RX1 103 yX1_bitsOf, Cond.static yX1_bitsOf, Cond.code yX1_bitsOf cX1_bitsOf 5 (some .long), Cond.constantLong RX1 51 (1022), Cond.constantLong RX1 53 (1023), Cond.constantLong RX1 58 (4503599627370496)]
def wsX1_sideBits_r2 : List Cond := [Cond.methodLink RX1 47 yX1_powerOf, Cond.static yX1_powerOf, Cond.code yX1_powerOf cX1_powerOf 4 (some .int), Cond.methodLink RX1 43 yX1_rooted, Cond.static yX1_rooted, Cond.code yX1_rooted cX1_rooted 10 (some .long), Cond.constantLong RX1 39 (4), Cond.constantLong RX1 41 (2), Cond.methodLink RX1 55 yX1_near, Cond.static yX1_near, Cond.code yX1_near cX1_near 2 (some .long)]
def wsX1_sideBits : List Cond := .code yX1_sideBits cX1_sideBits 2 (some .long) :: ((wsX1_sideBits_r1 ++ wsX1_sideBits_r2) ++ wsX10)
def wsX1_checksum_r1 : List Cond := [Cond.constantLong RX1 116 (7), Cond.fieldLink RX1 7 "PegfieldModel" "stands" "[Z", Cond.constantLong RX1 118 (31), Cond.fieldLink RX1 60 "PegfieldModel" "size" "I", Cond.fieldLink RX1 20 "PegfieldModel" "ring" "[I", Cond.fieldLink RX1 72 "PegfieldModel" "isWide" "Z", Cond.methodLink RX1 69 yX1_placed, Cond.instanceMethod yX1_placed, Cond.selects RX1 yX1_placed yX1_placed, Cond.initialized RX1, Cond.code yX1_placed cX1_placed 2 (some .int), Cond.fieldLink RX1 17 "PegfieldModel" "up" "[I", Cond.fieldLink RX1 13 "PegfieldModel" "across" "[I", Cond.methodLink RX1 91 yX1_nearestTo, Cond.instanceMethod yX1_nearestTo, Cond.selects RX1 yX1_nearestTo yX1_nearestTo, Cond.code yX1_nearestTo cX1_nearestTo 4 (some .int), Cond.methodLink RX1 80 yX1_grainsOf, Cond.instanceMethod yX1_grainsOf, Cond.selects RX1 yX1_grainsOf yX1_grainsOf, Cond.code yX1_grainsOf cX1_grainsOf 5 (some .int), Cond.methodLink RX1 55 yX1_near, Cond.static yX1_near, Cond.code yX1_near cX1_near 2 (some .long)]
def wsX1_checksum_r2 : List Cond := [Cond.constantLong RX1 41 (2), Cond.methodLink RX1 43 yX1_rooted, Cond.static yX1_rooted, Cond.code yX1_rooted cX1_rooted 10 (some .long), Cond.constantLong RX1 39 (4), Cond.methodLink RX1 120 yX1_around, Cond.instanceMethod yX1_around, Cond.selects RX1 yX1_around yX1_around, Cond.code yX1_around cX1_around 3 (some .int), Cond.methodLink RX1 110 yX1_behind, Cond.instanceMethod yX1_behind, Cond.selects RX1 yX1_behind yX1_behind, Cond.code yX1_behind cX1_behind 2 (some .int)]
def wsX1_checksum : List Cond := .code yX1_checksum cX1_checksum 4 (some .long) :: ((wsX1_checksum_r1 ++ wsX1_checksum_r2) ++ wsX10)
def wsX1_isSound : List Cond := .code yX1_isSound cX1_isSound 5 (some .boolean) :: ([.fieldLink RX1 7 "PegfieldModel" "stands" "[Z", .methodLink RX1 84 yX1_isNoLonger, .instanceMethod yX1_isNoLonger, .selects RX1 yX1_isNoLonger yX1_isNoLonger, .initialized RX1, .code yX1_isNoLonger cX1_isNoLonger 4 (some .boolean), .methodLink RX1 80 yX1_grainsOf, .instanceMethod yX1_grainsOf, .selects RX1 yX1_grainsOf yX1_grainsOf, .code yX1_grainsOf cX1_grainsOf 5 (some .int), .fieldLink RX1 13 "PegfieldModel" "across" "[I", .fieldLink RX1 17 "PegfieldModel" "up" "[I", .fieldLink RX1 72 "PegfieldModel" "isWide" "Z", .methodLink RX1 55 yX1_near, .static yX1_near, .code yX1_near cX1_near 2 (some .long), .constantLong RX1 41 (2), .methodLink RX1 43 yX1_rooted, .static yX1_rooted, .code yX1_rooted cX1_rooted 10 (some .long), .constantLong RX1 39 (4)] ++ wsX10)
def wsJ9_abs_0f7a4 : List Cond := .code yJ9_abs_0f7a4 cJ9_abs_0f7a4 1 (some .int) :: ([])
def wsL_put_r1 : List Cond := [Cond.classLink RL 13 "java/lang/IndexOutOfBoundsException", Cond.classLink RL 15 "java/lang/IllegalArgumentException", Cond.methodLink RL 7 yX0_put, Cond.instanceMethod yX0_put, Cond.selects RX0 yX0_put yX0_put, Cond.initialized RX0, Cond.code yX0_put cX0_put 5 (some .boolean), Cond.classLink RX0 39 "java/lang/IllegalArgumentException", Cond.initialized "java/lang/IllegalArgumentException", Cond.methodLink RX0 31 yX0_requirePeg, Cond.static yX0_requirePeg, Cond.code yX0_requirePeg cX0_requirePeg 1 none, Cond.classLink RX0 142 "java/lang/IndexOutOfBoundsException", Cond.initialized "java/lang/IndexOutOfBoundsException", Cond.methodLink RX0 64 yX0_isPeg, Cond.static yX0_isPeg, Cond.code yX0_isPeg cX0_isPeg 1 (some .boolean), Cond.methodLink RX0 35 yX0_isPlace, Cond.static yX0_isPlace, Cond.code yX0_isPlace cX0_isPlace 1 (some .boolean), Cond.methodLink RX0 46 yX0_stands, Cond.instanceMethod yX0_stands, Cond.selects RX0 yX0_stands yX0_stands, Cond.code yX0_stands cX0_stands 2 (some .boolean)]
def wsL_put_r2 : List Cond := [Cond.fieldLink RX0 9 "Pegfield" "standing" "[Z", Cond.methodLink RX0 49 yX0_moveTo, Cond.instanceMethod yX0_moveTo, Cond.selects RX0 yX0_moveTo yX0_moveTo, Cond.code yX0_moveTo cX0_moveTo 4 none, Cond.fieldLink RX0 13 "Pegfield" "acrossOf" "[I", Cond.fieldLink RX0 17 "Pegfield" "upOf" "[I"]
def wsL_put : List Cond := .codeWith yL_put cL_put 6 (some .int) [(0, 19, 22, 13), (0, 19, 26, 15)] :: ((wsL_put_r1 ++ wsL_put_r2) ++ wsX00 ++ (vx_atS RX0 43 "java/lang/IllegalArgumentException" ["java/lang/RuntimeException", "java/lang/Exception"]).filter goodWord ++ (vx_atS RX0 146 "java/lang/IndexOutOfBoundsException" ["java/lang/RuntimeException", "java/lang/Exception"]).filter goodWord)
def wsL_take_r1 : List Cond := [Cond.classLink RL 13 "java/lang/IndexOutOfBoundsException", Cond.classLink RL 21 "java/util/NoSuchElementException", Cond.classLink RL 23 "java/lang/IllegalStateException", Cond.methodLink RL 17 yX0_take, Cond.instanceMethod yX0_take, Cond.selects RX0 yX0_take yX0_take, Cond.initialized RX0, Cond.code yX0_take cX0_take 2 none, Cond.classLink RX0 59 "java/lang/IllegalStateException", Cond.initialized "java/lang/IllegalStateException", Cond.fieldLink RX0 9 "Pegfield" "standing" "[Z", Cond.methodLink RX0 31 yX0_requirePeg, Cond.static yX0_requirePeg, Cond.code yX0_requirePeg cX0_requirePeg 1 none, Cond.classLink RX0 142 "java/lang/IndexOutOfBoundsException", Cond.initialized "java/lang/IndexOutOfBoundsException", Cond.methodLink RX0 64 yX0_isPeg, Cond.static yX0_isPeg, Cond.code yX0_isPeg cX0_isPeg 1 (some .boolean), Cond.methodLink RX0 53 yX0_requireStanding, Cond.instanceMethod yX0_requireStanding, Cond.selects RX0 yX0_requireStanding yX0_requireStanding, Cond.code yX0_requireStanding cX0_requireStanding 2 none, Cond.classLink RX0 214 "java/util/NoSuchElementException"]
def wsL_take_r2 : List Cond := [Cond.initialized "java/util/NoSuchElementException", Cond.methodLink RX0 46 yX0_stands, Cond.instanceMethod yX0_stands, Cond.selects RX0 yX0_stands yX0_stands, Cond.code yX0_stands cX0_stands 2 (some .boolean), Cond.methodLink RX0 56 yX0_isInRing, Cond.instanceMethod yX0_isInRing, Cond.selects RX0 yX0_isInRing yX0_isInRing, Cond.code yX0_isInRing cX0_isInRing 3 (some .boolean), Cond.fieldLink RX0 23 "Pegfield" "ringSize" "I", Cond.methodLink RX0 139 yX0_pegInRing, Cond.instanceMethod yX0_pegInRing, Cond.selects RX0 yX0_pegInRing yX0_pegInRing, Cond.code yX0_pegInRing cX0_pegInRing 2 (some .int), Cond.fieldLink RX0 20 "Pegfield" "ring" "[I"]
def wsL_take : List Cond := .codeWith yL_take cL_take 3 (some .int) [(0, 5, 8, 13), (0, 5, 11, 21), (0, 5, 14, 23)] :: ((wsL_take_r1 ++ wsL_take_r2) ++ wsX00 ++ (vx_atS RX0 63 "java/lang/IllegalStateException" ["java/lang/RuntimeException", "java/lang/Exception"]).filter goodWord ++ (vx_atS RX0 146 "java/lang/IndexOutOfBoundsException" ["java/lang/RuntimeException", "java/lang/Exception"]).filter goodWord ++ (pg_atX RX0 218 "java/util/NoSuchElementException" 13 prog_13_method_4_code "java/lang/RuntimeException" ["java/lang/Exception"]).filter goodWord)
def wsL_step_r1 : List Cond := [Cond.classLink RL 13 "java/lang/IndexOutOfBoundsException", Cond.classLink RL 21 "java/util/NoSuchElementException", Cond.classLink RL 15 "java/lang/IllegalArgumentException", Cond.methodLink RL 25 yX0_step, Cond.instanceMethod yX0_step, Cond.selects RX0 yX0_step yX0_step, Cond.initialized RX0, Cond.code yX0_step cX0_step 5 (some .boolean), Cond.classLink RX0 39 "java/lang/IllegalArgumentException", Cond.initialized "java/lang/IllegalArgumentException", Cond.methodLink RX0 31 yX0_requirePeg, Cond.static yX0_requirePeg, Cond.code yX0_requirePeg cX0_requirePeg 1 none, Cond.classLink RX0 142 "java/lang/IndexOutOfBoundsException", Cond.initialized "java/lang/IndexOutOfBoundsException", Cond.methodLink RX0 64 yX0_isPeg, Cond.static yX0_isPeg, Cond.code yX0_isPeg cX0_isPeg 1 (some .boolean), Cond.methodLink RX0 53 yX0_requireStanding, Cond.instanceMethod yX0_requireStanding, Cond.selects RX0 yX0_requireStanding yX0_requireStanding, Cond.code yX0_requireStanding cX0_requireStanding 2 none, Cond.classLink RX0 214 "java/util/NoSuchElementException", Cond.initialized "java/util/NoSuchElementException"]
def wsL_step_r2 : List Cond := [Cond.methodLink RX0 46 yX0_stands, Cond.instanceMethod yX0_stands, Cond.selects RX0 yX0_stands yX0_stands, Cond.code yX0_stands cX0_stands 2 (some .boolean), Cond.fieldLink RX0 9 "Pegfield" "standing" "[Z", Cond.methodLink RX0 69 yX0_across, Cond.instanceMethod yX0_across, Cond.selects RX0 yX0_across yX0_across, Cond.code yX0_across cX0_across 2 (some .int), Cond.fieldLink RX0 13 "Pegfield" "acrossOf" "[I", Cond.methodLink RX0 73 yX0_up, Cond.instanceMethod yX0_up, Cond.selects RX0 yX0_up yX0_up, Cond.code yX0_up cX0_up 2 (some .int), Cond.fieldLink RX0 17 "Pegfield" "upOf" "[I", Cond.methodLink RX0 35 yX0_isPlace, Cond.static yX0_isPlace, Cond.code yX0_isPlace cX0_isPlace 1 (some .boolean), Cond.methodLink RX0 49 yX0_moveTo, Cond.instanceMethod yX0_moveTo, Cond.selects RX0 yX0_moveTo yX0_moveTo, Cond.code yX0_moveTo cX0_moveTo 4 none]
def wsL_step : List Cond := .codeWith yL_step cL_step 5 (some .int) [(0, 17, 20, 13), (0, 17, 24, 21), (0, 17, 28, 15)] :: ((wsL_step_r1 ++ wsL_step_r2) ++ wsX00 ++ (vx_atS RX0 43 "java/lang/IllegalArgumentException" ["java/lang/RuntimeException", "java/lang/Exception"]).filter goodWord ++ (vx_atS RX0 146 "java/lang/IndexOutOfBoundsException" ["java/lang/RuntimeException", "java/lang/Exception"]).filter goodWord ++ (pg_atX RX0 218 "java/util/NoSuchElementException" 13 prog_13_method_4_code "java/lang/RuntimeException" ["java/lang/Exception"]).filter goodWord)
def wsL_isThere : List Cond := .codeWith yL_isThere cL_isThere 4 (some .int) [(0, 16, 19, 13)] :: ([.classLink RL 13 "java/lang/IndexOutOfBoundsException", .methodLink RL 29 yX0_isThere, .instanceMethod yX0_isThere, .selects RX0 yX0_isThere yX0_isThere, .initialized RX0, .code yX0_isThere cX0_isThere 2 (some .boolean), .methodLink RX0 31 yX0_requirePeg, .static yX0_requirePeg, .code yX0_requirePeg cX0_requirePeg 1 none, .classLink RX0 142 "java/lang/IndexOutOfBoundsException", .initialized "java/lang/IndexOutOfBoundsException", .methodLink RX0 64 yX0_isPeg, .static yX0_isPeg, .code yX0_isPeg cX0_isPeg 1 (some .boolean), .methodLink RX0 46 yX0_stands, .instanceMethod yX0_stands, .selects RX0 yX0_stands yX0_stands, .code yX0_stands cX0_stands 2 (some .boolean), .fieldLink RX0 9 "Pegfield" "standing" "[Z"] ++ wsX00 ++ (vx_atS RX0 146 "java/lang/IndexOutOfBoundsException" ["java/lang/RuntimeException", "java/lang/Exception"]).filter goodWord)
def wsL_placeOf_r1 : List Cond := [Cond.classLink RL 13 "java/lang/IndexOutOfBoundsException", Cond.classLink RL 21 "java/util/NoSuchElementException", Cond.methodLink RL 33 yX0_placeOf, Cond.instanceMethod yX0_placeOf, Cond.selects RX0 yX0_placeOf yX0_placeOf, Cond.initialized RX0, Cond.code yX0_placeOf cX0_placeOf 2 (some .int), Cond.methodLink RX0 31 yX0_requirePeg, Cond.static yX0_requirePeg, Cond.code yX0_requirePeg cX0_requirePeg 1 none, Cond.classLink RX0 142 "java/lang/IndexOutOfBoundsException", Cond.initialized "java/lang/IndexOutOfBoundsException", Cond.methodLink RX0 64 yX0_isPeg, Cond.static yX0_isPeg, Cond.code yX0_isPeg cX0_isPeg 1 (some .boolean), Cond.methodLink RX0 53 yX0_requireStanding, Cond.instanceMethod yX0_requireStanding, Cond.selects RX0 yX0_requireStanding yX0_requireStanding, Cond.code yX0_requireStanding cX0_requireStanding 2 none, Cond.classLink RX0 214 "java/util/NoSuchElementException", Cond.initialized "java/util/NoSuchElementException", Cond.methodLink RX0 46 yX0_stands, Cond.instanceMethod yX0_stands, Cond.selects RX0 yX0_stands yX0_stands]
def wsL_placeOf_r2 : List Cond := [Cond.code yX0_stands cX0_stands 2 (some .boolean), Cond.fieldLink RX0 9 "Pegfield" "standing" "[Z", Cond.methodLink RX0 73 yX0_up, Cond.instanceMethod yX0_up, Cond.selects RX0 yX0_up yX0_up, Cond.code yX0_up cX0_up 2 (some .int), Cond.fieldLink RX0 17 "Pegfield" "upOf" "[I", Cond.methodLink RX0 69 yX0_across, Cond.instanceMethod yX0_across, Cond.selects RX0 yX0_across yX0_across, Cond.code yX0_across cX0_across 2 (some .int), Cond.fieldLink RX0 13 "Pegfield" "acrossOf" "[I"]
def wsL_placeOf : List Cond := .codeWith yL_placeOf cL_placeOf 4 (some .int) [(0, 9, 12, 13), (0, 9, 15, 21)] :: ((wsL_placeOf_r1 ++ wsL_placeOf_r2) ++ wsX00 ++ (vx_atS RX0 146 "java/lang/IndexOutOfBoundsException" ["java/lang/RuntimeException", "java/lang/Exception"]).filter goodWord ++ (pg_atX RX0 218 "java/util/NoSuchElementException" 13 prog_13_method_4_code "java/lang/RuntimeException" ["java/lang/Exception"]).filter goodWord)
def wsL_stretch_r1 : List Cond := [Cond.classLink RL 13 "java/lang/IndexOutOfBoundsException", Cond.classLink RL 21 "java/util/NoSuchElementException", Cond.methodLink RL 37 yX0_stretch, Cond.instanceMethod yX0_stretch, Cond.selects RX0 yX0_stretch yX0_stretch, Cond.initialized RX0, Cond.code yX0_stretch cX0_stretch 3 (some .int), Cond.methodLink RX0 76 yX0_requireTwo, Cond.instanceMethod yX0_requireTwo, Cond.selects RX0 yX0_requireTwo yX0_requireTwo, Cond.code yX0_requireTwo cX0_requireTwo 3 none, Cond.methodLink RX0 31 yX0_requirePeg, Cond.static yX0_requirePeg, Cond.code yX0_requirePeg cX0_requirePeg 1 none, Cond.classLink RX0 142 "java/lang/IndexOutOfBoundsException", Cond.initialized "java/lang/IndexOutOfBoundsException", Cond.methodLink RX0 64 yX0_isPeg, Cond.static yX0_isPeg, Cond.code yX0_isPeg cX0_isPeg 1 (some .boolean), Cond.methodLink RX0 53 yX0_requireStanding, Cond.instanceMethod yX0_requireStanding, Cond.selects RX0 yX0_requireStanding yX0_requireStanding, Cond.code yX0_requireStanding cX0_requireStanding 2 none, Cond.classLink RX0 214 "java/util/NoSuchElementException"]
def wsL_stretch_r2 : List Cond := [Cond.initialized "java/util/NoSuchElementException", Cond.methodLink RX0 46 yX0_stands, Cond.instanceMethod yX0_stands, Cond.selects RX0 yX0_stands yX0_stands, Cond.code yX0_stands cX0_stands 2 (some .boolean), Cond.fieldLink RX0 9 "Pegfield" "standing" "[Z", Cond.methodLink RX0 80 yX0_stretchGrains, Cond.instanceMethod yX0_stretchGrains, Cond.selects RX0 yX0_stretchGrains yX0_stretchGrains, Cond.code yX0_stretchGrains cX0_stretchGrains 3 (some .int), Cond.fieldLink RX0 27 "Pegfield" "wide" "Z", Cond.methodLink RX0 69 yX0_across, Cond.instanceMethod yX0_across, Cond.selects RX0 yX0_across yX0_across, Cond.code yX0_across cX0_across 2 (some .int), Cond.fieldLink RX0 13 "Pegfield" "acrossOf" "[I", Cond.methodLink RX0 73 yX0_up, Cond.instanceMethod yX0_up, Cond.selects RX0 yX0_up yX0_up, Cond.code yX0_up cX0_up 2 (some .int), Cond.fieldLink RX0 17 "Pegfield" "upOf" "[I", Cond.methodLink RX0 92 yX0_squareSum, Cond.static yX0_squareSum, Cond.code yX0_squareSum cX0_squareSum 4 (some .int)]
def wsL_stretch_r3 : List Cond := [Cond.methodLink RX0 119 yX0_grainsOfRoot, Cond.static yX0_grainsOfRoot, Cond.code yX0_grainsOfRoot cX0_grainsOfRoot 1 (some .int), Cond.methodLink RX0 221 yX0_rootDigits, Cond.static yX0_rootDigits, Cond.code yX0_rootDigits cX0_rootDigits 9 (some .long)]
def wsL_stretch : List Cond := .codeWith yL_stretch cL_stretch 5 (some .int) [(0, 10, 13, 13), (0, 10, 17, 21)] :: ((wsL_stretch_r1 ++ (wsL_stretch_r2 ++ wsL_stretch_r3)) ++ wsX00 ++ (vx_atS RX0 146 "java/lang/IndexOutOfBoundsException" ["java/lang/RuntimeException", "java/lang/Exception"]).filter goodWord ++ (pg_atX RX0 218 "java/util/NoSuchElementException" 13 prog_13_method_4_code "java/lang/RuntimeException" ["java/lang/Exception"]).filter goodWord)
def wsL_isSteady_r1 : List Cond := [Cond.classLink RL 13 "java/lang/IndexOutOfBoundsException", Cond.classLink RL 21 "java/util/NoSuchElementException", Cond.methodLink RL 41 yX0_isSteady, Cond.instanceMethod yX0_isSteady, Cond.selects RX0 yX0_isSteady yX0_isSteady, Cond.initialized RX0, Cond.code yX0_isSteady cX0_isSteady 10 (some .boolean), Cond.fieldLink RX0 27 "Pegfield" "wide" "Z", Cond.methodLink RX0 76 yX0_requireTwo, Cond.instanceMethod yX0_requireTwo, Cond.selects RX0 yX0_requireTwo yX0_requireTwo, Cond.code yX0_requireTwo cX0_requireTwo 3 none, Cond.methodLink RX0 31 yX0_requirePeg, Cond.static yX0_requirePeg, Cond.code yX0_requirePeg cX0_requirePeg 1 none, Cond.classLink RX0 142 "java/lang/IndexOutOfBoundsException", Cond.initialized "java/lang/IndexOutOfBoundsException", Cond.methodLink RX0 64 yX0_isPeg, Cond.static yX0_isPeg, Cond.code yX0_isPeg cX0_isPeg 1 (some .boolean), Cond.methodLink RX0 53 yX0_requireStanding, Cond.instanceMethod yX0_requireStanding, Cond.selects RX0 yX0_requireStanding yX0_requireStanding, Cond.code yX0_requireStanding cX0_requireStanding 2 none]
def wsL_isSteady_r2 : List Cond := [Cond.classLink RX0 214 "java/util/NoSuchElementException", Cond.initialized "java/util/NoSuchElementException", Cond.methodLink RX0 46 yX0_stands, Cond.instanceMethod yX0_stands, Cond.selects RX0 yX0_stands yX0_stands, Cond.code yX0_stands cX0_stands 2 (some .boolean), Cond.fieldLink RX0 9 "Pegfield" "standing" "[Z", Cond.methodLink RX0 69 yX0_across, Cond.instanceMethod yX0_across, Cond.selects RX0 yX0_across yX0_across, Cond.code yX0_across cX0_across 2 (some .int), Cond.fieldLink RX0 13 "Pegfield" "acrossOf" "[I", Cond.methodLink RX0 73 yX0_up, Cond.instanceMethod yX0_up, Cond.selects RX0 yX0_up yX0_up, Cond.code yX0_up cX0_up 2 (some .int), Cond.fieldLink RX0 17 "Pegfield" "upOf" "[I", Cond.methodLink RX0 84 yX0_hypotenuseBits, Cond.static yX0_hypotenuseBits, Cond.code yX0_hypotenuseBits cX0_hypotenuseBits 3 (some .long), Cond.methodLink RX0 92 yX0_squareSum, Cond.static yX0_squareSum, Cond.code yX0_squareSum cX0_squareSum 4 (some .int), Cond.methodLink RX0 122 yX0_bitsOfRoot]
def wsL_isSteady_r3 : List Cond := [Cond.static yX0_bitsOfRoot, Cond.code yX0_bitsOfRoot cX0_bitsOfRoot 6 (some .long), Cond.constantLong RX0 228 (4503599627370496), Cond.methodLink RX0 225 yX0_highestPair, Cond.static yX0_highestPair, Cond.code yX0_highestPair cX0_highestPair 2 (some .int), Cond.methodLink RX0 221 yX0_rootDigits, Cond.static yX0_rootDigits, Cond.code yX0_rootDigits cX0_rootDigits 9 (some .long)]
def wsL_isSteady : List Cond := .codeWith yL_isSteady cL_isSteady 5 (some .int) [(0, 17, 20, 13), (0, 17, 24, 21)] :: ((wsL_isSteady_r1 ++ (wsL_isSteady_r2 ++ wsL_isSteady_r3)) ++ wsX00 ++ (vx_atS RX0 146 "java/lang/IndexOutOfBoundsException" ["java/lang/RuntimeException", "java/lang/Exception"]).filter goodWord ++ (pg_atX RX0 218 "java/util/NoSuchElementException" 13 prog_13_method_4_code "java/lang/RuntimeException" ["java/lang/Exception"]).filter goodWord)
def wsL_isDoubled_r1 : List Cond := [Cond.classLink RL 13 "java/lang/IndexOutOfBoundsException", Cond.classLink RL 21 "java/util/NoSuchElementException", Cond.methodLink RL 45 yX0_isDoubled, Cond.instanceMethod yX0_isDoubled, Cond.selects RX0 yX0_isDoubled yX0_isDoubled, Cond.initialized RX0, Cond.code yX0_isDoubled cX0_isDoubled 5 (some .boolean), Cond.methodLink RX0 76 yX0_requireTwo, Cond.instanceMethod yX0_requireTwo, Cond.selects RX0 yX0_requireTwo yX0_requireTwo, Cond.code yX0_requireTwo cX0_requireTwo 3 none, Cond.methodLink RX0 31 yX0_requirePeg, Cond.static yX0_requirePeg, Cond.code yX0_requirePeg cX0_requirePeg 1 none, Cond.classLink RX0 142 "java/lang/IndexOutOfBoundsException", Cond.initialized "java/lang/IndexOutOfBoundsException", Cond.methodLink RX0 64 yX0_isPeg, Cond.static yX0_isPeg, Cond.code yX0_isPeg cX0_isPeg 1 (some .boolean), Cond.methodLink RX0 53 yX0_requireStanding, Cond.instanceMethod yX0_requireStanding, Cond.selects RX0 yX0_requireStanding yX0_requireStanding, Cond.code yX0_requireStanding cX0_requireStanding 2 none, Cond.classLink RX0 214 "java/util/NoSuchElementException"]
def wsL_isDoubled_r2 : List Cond := [Cond.initialized "java/util/NoSuchElementException", Cond.methodLink RX0 46 yX0_stands, Cond.instanceMethod yX0_stands, Cond.selects RX0 yX0_stands yX0_stands, Cond.code yX0_stands cX0_stands 2 (some .boolean), Cond.fieldLink RX0 9 "Pegfield" "standing" "[Z", Cond.methodLink RX0 69 yX0_across, Cond.instanceMethod yX0_across, Cond.selects RX0 yX0_across yX0_across, Cond.code yX0_across cX0_across 2 (some .int), Cond.fieldLink RX0 13 "Pegfield" "acrossOf" "[I", Cond.methodLink RX0 73 yX0_up, Cond.instanceMethod yX0_up, Cond.selects RX0 yX0_up yX0_up, Cond.code yX0_up cX0_up 2 (some .int), Cond.fieldLink RX0 17 "Pegfield" "upOf" "[I", Cond.methodLink RX0 84 yX0_hypotenuseBits, Cond.static yX0_hypotenuseBits, Cond.code yX0_hypotenuseBits cX0_hypotenuseBits 3 (some .long), Cond.methodLink RX0 92 yX0_squareSum, Cond.static yX0_squareSum, Cond.code yX0_squareSum cX0_squareSum 4 (some .int), Cond.methodLink RX0 122 yX0_bitsOfRoot, Cond.static yX0_bitsOfRoot]
def wsL_isDoubled_r3 : List Cond := [Cond.code yX0_bitsOfRoot cX0_bitsOfRoot 6 (some .long), Cond.constantLong RX0 228 (4503599627370496), Cond.methodLink RX0 225 yX0_highestPair, Cond.static yX0_highestPair, Cond.code yX0_highestPair cX0_highestPair 2 (some .int), Cond.methodLink RX0 221 yX0_rootDigits, Cond.static yX0_rootDigits, Cond.code yX0_rootDigits cX0_rootDigits 9 (some .long), Cond.methodLink RX0 88 yX0_twice, Cond.static yX0_twice, Cond.code yX0_twice cX0_twice 2 (some .long)]
def wsL_isDoubled : List Cond := .codeWith yL_isDoubled cL_isDoubled 5 (some .int) [(0, 17, 20, 13), (0, 17, 24, 21)] :: ((wsL_isDoubled_r1 ++ (wsL_isDoubled_r2 ++ wsL_isDoubled_r3)) ++ wsX00 ++ (vx_atS RX0 146 "java/lang/IndexOutOfBoundsException" ["java/lang/RuntimeException", "java/lang/Exception"]).filter goodWord ++ (pg_atX RX0 218 "java/util/NoSuchElementException" 13 prog_13_method_4_code "java/lang/RuntimeException" ["java/lang/Exception"]).filter goodWord)
def wsL_isClose_r1 : List Cond := [Cond.classLink RL 13 "java/lang/IndexOutOfBoundsException", Cond.classLink RL 21 "java/util/NoSuchElementException", Cond.methodLink RL 48 yX0_isClose, Cond.instanceMethod yX0_isClose, Cond.selects RX0 yX0_isClose yX0_isClose, Cond.initialized RX0, Cond.code yX0_isClose cX0_isClose 11 (some .boolean), Cond.fieldLink RX0 27 "Pegfield" "wide" "Z", Cond.methodLink RX0 76 yX0_requireTwo, Cond.instanceMethod yX0_requireTwo, Cond.selects RX0 yX0_requireTwo yX0_requireTwo, Cond.code yX0_requireTwo cX0_requireTwo 3 none, Cond.methodLink RX0 31 yX0_requirePeg, Cond.static yX0_requirePeg, Cond.code yX0_requirePeg cX0_requirePeg 1 none, Cond.classLink RX0 142 "java/lang/IndexOutOfBoundsException", Cond.initialized "java/lang/IndexOutOfBoundsException", Cond.methodLink RX0 64 yX0_isPeg, Cond.static yX0_isPeg, Cond.code yX0_isPeg cX0_isPeg 1 (some .boolean), Cond.methodLink RX0 53 yX0_requireStanding, Cond.instanceMethod yX0_requireStanding, Cond.selects RX0 yX0_requireStanding yX0_requireStanding, Cond.code yX0_requireStanding cX0_requireStanding 2 none]
def wsL_isClose_r2 : List Cond := [Cond.classLink RX0 214 "java/util/NoSuchElementException", Cond.initialized "java/util/NoSuchElementException", Cond.methodLink RX0 46 yX0_stands, Cond.instanceMethod yX0_stands, Cond.selects RX0 yX0_stands yX0_stands, Cond.code yX0_stands cX0_stands 2 (some .boolean), Cond.fieldLink RX0 9 "Pegfield" "standing" "[Z", Cond.methodLink RX0 69 yX0_across, Cond.instanceMethod yX0_across, Cond.selects RX0 yX0_across yX0_across, Cond.code yX0_across cX0_across 2 (some .int), Cond.fieldLink RX0 13 "Pegfield" "acrossOf" "[I", Cond.methodLink RX0 73 yX0_up, Cond.instanceMethod yX0_up, Cond.selects RX0 yX0_up yX0_up, Cond.code yX0_up cX0_up 2 (some .int), Cond.fieldLink RX0 17 "Pegfield" "upOf" "[I", Cond.methodLink RX0 84 yX0_hypotenuseBits, Cond.static yX0_hypotenuseBits, Cond.code yX0_hypotenuseBits cX0_hypotenuseBits 3 (some .long), Cond.methodLink RX0 92 yX0_squareSum, Cond.static yX0_squareSum, Cond.code yX0_squareSum cX0_squareSum 4 (some .int), Cond.methodLink RX0 122 yX0_bitsOfRoot]
def wsL_isClose_r3 : List Cond := [Cond.static yX0_bitsOfRoot, Cond.code yX0_bitsOfRoot cX0_bitsOfRoot 6 (some .long), Cond.constantLong RX0 228 (4503599627370496), Cond.methodLink RX0 225 yX0_highestPair, Cond.static yX0_highestPair, Cond.code yX0_highestPair cX0_highestPair 2 (some .int), Cond.methodLink RX0 221 yX0_rootDigits, Cond.static yX0_rootDigits, Cond.code yX0_rootDigits cX0_rootDigits 9 (some .long), Cond.methodLink RX0 96 yX0_unitsOf, Cond.static yX0_unitsOf, Cond.code yX0_unitsOf cX0_unitsOf 2 (some .long), Cond.constantLong RX0 230 (4503599627370495), Cond.methodLink RX0 99 yX0_placesAfterPoint, Cond.static yX0_placesAfterPoint, Cond.code yX0_placesAfterPoint cX0_placesAfterPoint 2 (some .int), Cond.methodLink RX0 103 yX0_compareSquare, Cond.static yX0_compareSquare, Cond.code yX0_compareSquare cX0_compareSquare 17 (some .int), Cond.constantLong RX0 232 (134217727), Cond.constantLong RX0 133 (2), Cond.constantLong RX0 234 (18014398509481983)]
def wsL_isClose : List Cond := .codeWith yL_isClose cL_isClose 5 (some .int) [(0, 17, 20, 13), (0, 17, 24, 21)] :: ((wsL_isClose_r1 ++ (wsL_isClose_r2 ++ wsL_isClose_r3)) ++ wsX00 ++ (vx_atS RX0 146 "java/lang/IndexOutOfBoundsException" ["java/lang/RuntimeException", "java/lang/Exception"]).filter goodWord ++ (pg_atX RX0 218 "java/util/NoSuchElementException" 13 prog_13_method_4_code "java/lang/RuntimeException" ["java/lang/Exception"]).filter goodWord)
def wsL_isStraight_r1 : List Cond := [Cond.classLink RL 13 "java/lang/IndexOutOfBoundsException", Cond.classLink RL 21 "java/util/NoSuchElementException", Cond.methodLink RL 51 yX0_isStraight, Cond.instanceMethod yX0_isStraight, Cond.selects RX0 yX0_isStraight yX0_isStraight, Cond.initialized RX0, Cond.code yX0_isStraight cX0_isStraight 4 (some .boolean), Cond.methodLink RX0 31 yX0_requirePeg, Cond.static yX0_requirePeg, Cond.code yX0_requirePeg cX0_requirePeg 1 none, Cond.classLink RX0 142 "java/lang/IndexOutOfBoundsException", Cond.initialized "java/lang/IndexOutOfBoundsException", Cond.methodLink RX0 64 yX0_isPeg, Cond.static yX0_isPeg, Cond.code yX0_isPeg cX0_isPeg 1 (some .boolean), Cond.methodLink RX0 53 yX0_requireStanding, Cond.instanceMethod yX0_requireStanding, Cond.selects RX0 yX0_requireStanding yX0_requireStanding, Cond.code yX0_requireStanding cX0_requireStanding 2 none, Cond.classLink RX0 214 "java/util/NoSuchElementException", Cond.initialized "java/util/NoSuchElementException", Cond.methodLink RX0 46 yX0_stands, Cond.instanceMethod yX0_stands, Cond.selects RX0 yX0_stands yX0_stands]
def wsL_isStraight_r2 : List Cond := [Cond.code yX0_stands cX0_stands 2 (some .boolean), Cond.fieldLink RX0 9 "Pegfield" "standing" "[Z", Cond.methodLink RX0 80 yX0_stretchGrains, Cond.instanceMethod yX0_stretchGrains, Cond.selects RX0 yX0_stretchGrains yX0_stretchGrains, Cond.code yX0_stretchGrains cX0_stretchGrains 3 (some .int), Cond.fieldLink RX0 27 "Pegfield" "wide" "Z", Cond.methodLink RX0 69 yX0_across, Cond.instanceMethod yX0_across, Cond.selects RX0 yX0_across yX0_across, Cond.code yX0_across cX0_across 2 (some .int), Cond.fieldLink RX0 13 "Pegfield" "acrossOf" "[I", Cond.methodLink RX0 73 yX0_up, Cond.instanceMethod yX0_up, Cond.selects RX0 yX0_up yX0_up, Cond.code yX0_up cX0_up 2 (some .int), Cond.fieldLink RX0 17 "Pegfield" "upOf" "[I", Cond.methodLink RX0 92 yX0_squareSum, Cond.static yX0_squareSum, Cond.code yX0_squareSum cX0_squareSum 4 (some .int), Cond.methodLink RX0 119 yX0_grainsOfRoot, Cond.static yX0_grainsOfRoot, Cond.code yX0_grainsOfRoot cX0_grainsOfRoot 1 (some .int), Cond.methodLink RX0 221 yX0_rootDigits]
def wsL_isStraight_r3 : List Cond := [Cond.static yX0_rootDigits, Cond.code yX0_rootDigits cX0_rootDigits 9 (some .long)]
def wsL_isStraight : List Cond := .codeWith yL_isStraight cL_isStraight 6 (some .int) [(0, 19, 22, 13), (0, 19, 26, 21)] :: ((wsL_isStraight_r1 ++ (wsL_isStraight_r2 ++ wsL_isStraight_r3)) ++ wsX00 ++ (vx_atS RX0 146 "java/lang/IndexOutOfBoundsException" ["java/lang/RuntimeException", "java/lang/Exception"]).filter goodWord ++ (pg_atX RX0 218 "java/util/NoSuchElementException" 13 prog_13_method_4_code "java/lang/RuntimeException" ["java/lang/Exception"]).filter goodWord)
def wsL_nearest_r1 : List Cond := [Cond.classLink RL 13 "java/lang/IndexOutOfBoundsException", Cond.classLink RL 21 "java/util/NoSuchElementException", Cond.classLink RL 23 "java/lang/IllegalStateException", Cond.methodLink RL 54 yX0_nearest, Cond.instanceMethod yX0_nearest, Cond.selects RX0 yX0_nearest yX0_nearest, Cond.initialized RX0, Cond.code yX0_nearest cX0_nearest 3 (some .int), Cond.classLink RX0 59 "java/lang/IllegalStateException", Cond.initialized "java/lang/IllegalStateException", Cond.methodLink RX0 31 yX0_requirePeg, Cond.static yX0_requirePeg, Cond.code yX0_requirePeg cX0_requirePeg 1 none, Cond.classLink RX0 142 "java/lang/IndexOutOfBoundsException", Cond.initialized "java/lang/IndexOutOfBoundsException", Cond.methodLink RX0 64 yX0_isPeg, Cond.static yX0_isPeg, Cond.code yX0_isPeg cX0_isPeg 1 (some .boolean), Cond.methodLink RX0 53 yX0_requireStanding, Cond.instanceMethod yX0_requireStanding, Cond.selects RX0 yX0_requireStanding yX0_requireStanding, Cond.code yX0_requireStanding cX0_requireStanding 2 none, Cond.classLink RX0 214 "java/util/NoSuchElementException", Cond.initialized "java/util/NoSuchElementException"]
def wsL_nearest_r2 : List Cond := [Cond.methodLink RX0 46 yX0_stands, Cond.instanceMethod yX0_stands, Cond.selects RX0 yX0_stands yX0_stands, Cond.code yX0_stands cX0_stands 2 (some .boolean), Cond.fieldLink RX0 9 "Pegfield" "standing" "[Z", Cond.methodLink RX0 107 yX0_nearestOther, Cond.instanceMethod yX0_nearestOther, Cond.selects RX0 yX0_nearestOther yX0_nearestOther, Cond.code yX0_nearestOther cX0_nearestOther 6 (some .int), Cond.methodLink RX0 80 yX0_stretchGrains, Cond.instanceMethod yX0_stretchGrains, Cond.selects RX0 yX0_stretchGrains yX0_stretchGrains, Cond.code yX0_stretchGrains cX0_stretchGrains 3 (some .int), Cond.fieldLink RX0 27 "Pegfield" "wide" "Z", Cond.methodLink RX0 69 yX0_across, Cond.instanceMethod yX0_across, Cond.selects RX0 yX0_across yX0_across, Cond.code yX0_across cX0_across 2 (some .int), Cond.fieldLink RX0 13 "Pegfield" "acrossOf" "[I", Cond.methodLink RX0 73 yX0_up, Cond.instanceMethod yX0_up, Cond.selects RX0 yX0_up yX0_up, Cond.code yX0_up cX0_up 2 (some .int), Cond.fieldLink RX0 17 "Pegfield" "upOf" "[I"]
def wsL_nearest_r3 : List Cond := [Cond.methodLink RX0 92 yX0_squareSum, Cond.static yX0_squareSum, Cond.code yX0_squareSum cX0_squareSum 4 (some .int), Cond.methodLink RX0 119 yX0_grainsOfRoot, Cond.static yX0_grainsOfRoot, Cond.code yX0_grainsOfRoot cX0_grainsOfRoot 1 (some .int), Cond.methodLink RX0 221 yX0_rootDigits, Cond.static yX0_rootDigits, Cond.code yX0_rootDigits cX0_rootDigits 9 (some .long)]
def wsL_nearest : List Cond := .codeWith yL_nearest cL_nearest 4 (some .int) [(0, 9, 12, 13), (0, 9, 15, 21), (0, 9, 18, 23)] :: ((wsL_nearest_r1 ++ (wsL_nearest_r2 ++ wsL_nearest_r3)) ++ wsX00 ++ (vx_atS RX0 63 "java/lang/IllegalStateException" ["java/lang/RuntimeException", "java/lang/Exception"]).filter goodWord ++ (vx_atS RX0 146 "java/lang/IndexOutOfBoundsException" ["java/lang/RuntimeException", "java/lang/Exception"]).filter goodWord ++ (pg_atX RX0 218 "java/util/NoSuchElementException" 13 prog_13_method_4_code "java/lang/RuntimeException" ["java/lang/Exception"]).filter goodWord)
def wsL_rank_r1 : List Cond := [Cond.classLink RL 13 "java/lang/IndexOutOfBoundsException", Cond.classLink RL 21 "java/util/NoSuchElementException", Cond.methodLink RL 57 yX0_rank, Cond.instanceMethod yX0_rank, Cond.selects RX0 yX0_rank yX0_rank, Cond.initialized RX0, Cond.code yX0_rank cX0_rank 7 (some .int), Cond.methodLink RX0 76 yX0_requireTwo, Cond.instanceMethod yX0_requireTwo, Cond.selects RX0 yX0_requireTwo yX0_requireTwo, Cond.code yX0_requireTwo cX0_requireTwo 3 none, Cond.methodLink RX0 31 yX0_requirePeg, Cond.static yX0_requirePeg, Cond.code yX0_requirePeg cX0_requirePeg 1 none, Cond.classLink RX0 142 "java/lang/IndexOutOfBoundsException", Cond.initialized "java/lang/IndexOutOfBoundsException", Cond.methodLink RX0 64 yX0_isPeg, Cond.static yX0_isPeg, Cond.code yX0_isPeg cX0_isPeg 1 (some .boolean), Cond.methodLink RX0 53 yX0_requireStanding, Cond.instanceMethod yX0_requireStanding, Cond.selects RX0 yX0_requireStanding yX0_requireStanding, Cond.code yX0_requireStanding cX0_requireStanding 2 none, Cond.classLink RX0 214 "java/util/NoSuchElementException"]
def wsL_rank_r2 : List Cond := [Cond.initialized "java/util/NoSuchElementException", Cond.methodLink RX0 46 yX0_stands, Cond.instanceMethod yX0_stands, Cond.selects RX0 yX0_stands yX0_stands, Cond.code yX0_stands cX0_stands 2 (some .boolean), Cond.fieldLink RX0 9 "Pegfield" "standing" "[Z", Cond.methodLink RX0 80 yX0_stretchGrains, Cond.instanceMethod yX0_stretchGrains, Cond.selects RX0 yX0_stretchGrains yX0_stretchGrains, Cond.code yX0_stretchGrains cX0_stretchGrains 3 (some .int), Cond.fieldLink RX0 27 "Pegfield" "wide" "Z", Cond.methodLink RX0 69 yX0_across, Cond.instanceMethod yX0_across, Cond.selects RX0 yX0_across yX0_across, Cond.code yX0_across cX0_across 2 (some .int), Cond.fieldLink RX0 13 "Pegfield" "acrossOf" "[I", Cond.methodLink RX0 73 yX0_up, Cond.instanceMethod yX0_up, Cond.selects RX0 yX0_up yX0_up, Cond.code yX0_up cX0_up 2 (some .int), Cond.fieldLink RX0 17 "Pegfield" "upOf" "[I", Cond.methodLink RX0 92 yX0_squareSum, Cond.static yX0_squareSum, Cond.code yX0_squareSum cX0_squareSum 4 (some .int)]
def wsL_rank_r3 : List Cond := [Cond.methodLink RX0 119 yX0_grainsOfRoot, Cond.static yX0_grainsOfRoot, Cond.code yX0_grainsOfRoot cX0_grainsOfRoot 1 (some .int), Cond.methodLink RX0 221 yX0_rootDigits, Cond.static yX0_rootDigits, Cond.code yX0_rootDigits cX0_rootDigits 9 (some .long)]
def wsL_rank : List Cond := .codeWith yL_rank cL_rank 5 (some .int) [(0, 10, 13, 13), (0, 10, 17, 21)] :: ((wsL_rank_r1 ++ (wsL_rank_r2 ++ wsL_rank_r3)) ++ wsX00 ++ (vx_atS RX0 146 "java/lang/IndexOutOfBoundsException" ["java/lang/RuntimeException", "java/lang/Exception"]).filter goodWord ++ (pg_atX RX0 218 "java/util/NoSuchElementException" 13 prog_13_method_4_code "java/lang/RuntimeException" ["java/lang/Exception"]).filter goodWord)
def wsL_isIn_r1 : List Cond := [Cond.classLink RL 13 "java/lang/IndexOutOfBoundsException", Cond.classLink RL 21 "java/util/NoSuchElementException", Cond.classLink RL 15 "java/lang/IllegalArgumentException", Cond.methodLink RL 60 yX0_isIn, Cond.instanceMethod yX0_isIn, Cond.selects RX0 yX0_isIn yX0_isIn, Cond.initialized RX0, Cond.code yX0_isIn cX0_isIn 5 (some .boolean), Cond.methodLink RX0 76 yX0_requireTwo, Cond.instanceMethod yX0_requireTwo, Cond.selects RX0 yX0_requireTwo yX0_requireTwo, Cond.code yX0_requireTwo cX0_requireTwo 3 none, Cond.methodLink RX0 31 yX0_requirePeg, Cond.static yX0_requirePeg, Cond.code yX0_requirePeg cX0_requirePeg 1 none, Cond.classLink RX0 142 "java/lang/IndexOutOfBoundsException", Cond.initialized "java/lang/IndexOutOfBoundsException", Cond.methodLink RX0 64 yX0_isPeg, Cond.static yX0_isPeg, Cond.code yX0_isPeg cX0_isPeg 1 (some .boolean), Cond.methodLink RX0 53 yX0_requireStanding, Cond.instanceMethod yX0_requireStanding, Cond.selects RX0 yX0_requireStanding yX0_requireStanding, Cond.code yX0_requireStanding cX0_requireStanding 2 none]
def wsL_isIn_r2 : List Cond := [Cond.classLink RX0 214 "java/util/NoSuchElementException", Cond.initialized "java/util/NoSuchElementException", Cond.methodLink RX0 46 yX0_stands, Cond.instanceMethod yX0_stands, Cond.selects RX0 yX0_stands yX0_stands, Cond.code yX0_stands cX0_stands 2 (some .boolean), Cond.fieldLink RX0 9 "Pegfield" "standing" "[Z", Cond.methodLink RX0 112 yX0_requireNumber, Cond.static yX0_requireNumber, Cond.code yX0_requireNumber cX0_requireNumber 1 none, Cond.classLink RX0 39 "java/lang/IllegalArgumentException", Cond.initialized "java/lang/IllegalArgumentException", Cond.methodLink RX0 159 yX0_isNumber, Cond.static yX0_isNumber, Cond.code yX0_isNumber cX0_isNumber 1 (some .boolean), Cond.methodLink RX0 80 yX0_stretchGrains, Cond.instanceMethod yX0_stretchGrains, Cond.selects RX0 yX0_stretchGrains yX0_stretchGrains, Cond.code yX0_stretchGrains cX0_stretchGrains 3 (some .int), Cond.fieldLink RX0 27 "Pegfield" "wide" "Z", Cond.methodLink RX0 69 yX0_across, Cond.instanceMethod yX0_across, Cond.selects RX0 yX0_across yX0_across, Cond.code yX0_across cX0_across 2 (some .int)]
def wsL_isIn_r3 : List Cond := [Cond.fieldLink RX0 13 "Pegfield" "acrossOf" "[I", Cond.methodLink RX0 73 yX0_up, Cond.instanceMethod yX0_up, Cond.selects RX0 yX0_up yX0_up, Cond.code yX0_up cX0_up 2 (some .int), Cond.fieldLink RX0 17 "Pegfield" "upOf" "[I", Cond.methodLink RX0 92 yX0_squareSum, Cond.static yX0_squareSum, Cond.code yX0_squareSum cX0_squareSum 4 (some .int), Cond.methodLink RX0 119 yX0_grainsOfRoot, Cond.static yX0_grainsOfRoot, Cond.code yX0_grainsOfRoot cX0_grainsOfRoot 1 (some .int), Cond.methodLink RX0 221 yX0_rootDigits, Cond.static yX0_rootDigits, Cond.code yX0_rootDigits cX0_rootDigits 9 (some .long), Cond.methodLink RX0 115 yX0_sixteenthsOf, Cond.static yX0_sixteenthsOf, Cond.code yX0_sixteenthsOf cX0_sixteenthsOf 2 (some .int)]
def wsL_isIn : List Cond := .codeWith yL_isIn cL_isIn 7 (some .int) [(0, 21, 24, 13), (0, 21, 28, 21), (0, 21, 32, 15)] :: ((wsL_isIn_r1 ++ (wsL_isIn_r2 ++ wsL_isIn_r3)) ++ wsX00 ++ (vx_atS RX0 146 "java/lang/IndexOutOfBoundsException" ["java/lang/RuntimeException", "java/lang/Exception"]).filter goodWord ++ (pg_atX RX0 218 "java/util/NoSuchElementException" 13 prog_13_method_4_code "java/lang/RuntimeException" ["java/lang/Exception"]).filter goodWord ++ (vx_atS RX0 43 "java/lang/IllegalArgumentException" ["java/lang/RuntimeException", "java/lang/Exception"]).filter goodWord)
def wsL_root_r1 : List Cond := [Cond.classLink RL 15 "java/lang/IllegalArgumentException", Cond.methodLink RL 64 yX0_root, Cond.instanceMethod yX0_root, Cond.selects RX0 yX0_root yX0_root, Cond.initialized RX0, Cond.code yX0_root cX0_root 3 (some .double), Cond.methodLink RX0 112 yX0_requireNumber, Cond.static yX0_requireNumber, Cond.code yX0_requireNumber cX0_requireNumber 1 none, Cond.classLink RX0 39 "java/lang/IllegalArgumentException", Cond.initialized "java/lang/IllegalArgumentException", Cond.methodLink RX0 159 yX0_isNumber, Cond.static yX0_isNumber, Cond.code yX0_isNumber cX0_isNumber 1 (some .boolean), Cond.methodLink RX0 115 yX0_sixteenthsOf, Cond.static yX0_sixteenthsOf, Cond.code yX0_sixteenthsOf cX0_sixteenthsOf 2 (some .int), Cond.methodLink RX0 122 yX0_bitsOfRoot, Cond.static yX0_bitsOfRoot, Cond.code yX0_bitsOfRoot cX0_bitsOfRoot 6 (some .long), Cond.constantLong RX0 228 (4503599627370496), Cond.methodLink RX0 225 yX0_highestPair, Cond.static yX0_highestPair, Cond.code yX0_highestPair cX0_highestPair 2 (some .int)]
def wsL_root_r2 : List Cond := [Cond.methodLink RX0 221 yX0_rootDigits, Cond.static yX0_rootDigits, Cond.code yX0_rootDigits cX0_rootDigits 9 (some .long), Cond.methodLink RX0 126 yX0_doubleOf, Cond.static yX0_doubleOf, Cond.code yX0_doubleOf cX0_doubleOf 4 (some .double), Cond.methodLink RX0 99 yX0_placesAfterPoint, Cond.static yX0_placesAfterPoint, Cond.code yX0_placesAfterPoint cX0_placesAfterPoint 2 (some .int), Cond.methodLink RX0 96 yX0_unitsOf, Cond.static yX0_unitsOf, Cond.code yX0_unitsOf cX0_unitsOf 2 (some .long), Cond.constantLong RX0 230 (4503599627370495)]
def wsL_root : List Cond := .codeWith yL_root cL_root 5 (some .int) [(0, 9, 12, 15)] :: ((wsL_root_r1 ++ wsL_root_r2) ++ (vx_atS RX0 43 "java/lang/IllegalArgumentException" ["java/lang/RuntimeException", "java/lang/Exception"]).filter goodWord)
def wsL_rootBits_r1 : List Cond := [Cond.classLink RL 15 "java/lang/IllegalArgumentException", Cond.methodLink RL 68 yX0_rootBits, Cond.instanceMethod yX0_rootBits, Cond.selects RX0 yX0_rootBits yX0_rootBits, Cond.initialized RX0, Cond.code yX0_rootBits cX0_rootBits 3 (some .long), Cond.methodLink RX0 112 yX0_requireNumber, Cond.static yX0_requireNumber, Cond.code yX0_requireNumber cX0_requireNumber 1 none, Cond.classLink RX0 39 "java/lang/IllegalArgumentException", Cond.initialized "java/lang/IllegalArgumentException", Cond.methodLink RX0 159 yX0_isNumber, Cond.static yX0_isNumber, Cond.code yX0_isNumber cX0_isNumber 1 (some .boolean), Cond.methodLink RX0 115 yX0_sixteenthsOf, Cond.static yX0_sixteenthsOf, Cond.code yX0_sixteenthsOf cX0_sixteenthsOf 2 (some .int), Cond.methodLink RX0 122 yX0_bitsOfRoot, Cond.static yX0_bitsOfRoot, Cond.code yX0_bitsOfRoot cX0_bitsOfRoot 6 (some .long), Cond.constantLong RX0 228 (4503599627370496), Cond.methodLink RX0 225 yX0_highestPair, Cond.static yX0_highestPair, Cond.code yX0_highestPair cX0_highestPair 2 (some .int)]
def wsL_rootBits_r2 : List Cond := [Cond.methodLink RX0 221 yX0_rootDigits, Cond.static yX0_rootDigits, Cond.code yX0_rootDigits cX0_rootDigits 9 (some .long)]
def wsL_rootBits : List Cond := .codeWith yL_rootBits cL_rootBits 5 (some .int) [(0, 9, 12, 15)] :: ((wsL_rootBits_r1 ++ wsL_rootBits_r2) ++ (vx_atS RX0 43 "java/lang/IllegalArgumentException" ["java/lang/RuntimeException", "java/lang/Exception"]).filter goodWord)
def wsL_rootGrains : List Cond := .codeWith yL_rootGrains cL_rootGrains 5 (some .int) [(0, 10, 13, 15)] :: ([.classLink RL 15 "java/lang/IllegalArgumentException", .methodLink RL 72 yX0_rootGrains, .instanceMethod yX0_rootGrains, .selects RX0 yX0_rootGrains yX0_rootGrains, .initialized RX0, .code yX0_rootGrains cX0_rootGrains 3 (some .int), .methodLink RX0 112 yX0_requireNumber, .static yX0_requireNumber, .code yX0_requireNumber cX0_requireNumber 1 none, .classLink RX0 39 "java/lang/IllegalArgumentException", .initialized "java/lang/IllegalArgumentException", .methodLink RX0 159 yX0_isNumber, .static yX0_isNumber, .code yX0_isNumber cX0_isNumber 1 (some .boolean), .methodLink RX0 115 yX0_sixteenthsOf, .static yX0_sixteenthsOf, .code yX0_sixteenthsOf cX0_sixteenthsOf 2 (some .int), .methodLink RX0 119 yX0_grainsOfRoot, .static yX0_grainsOfRoot, .code yX0_grainsOfRoot cX0_grainsOfRoot 1 (some .int), .methodLink RX0 221 yX0_rootDigits, .static yX0_rootDigits, .code yX0_rootDigits cX0_rootDigits 9 (some .long)] ++ (vx_atS RX0 43 "java/lang/IllegalArgumentException" ["java/lang/RuntimeException", "java/lang/Exception"]).filter goodWord)
def wsL_wholeRoot : List Cond := .codeWith yL_wholeRoot cL_wholeRoot 4 (some .int) [(0, 9, 12, 15)] :: ([.classLink RL 15 "java/lang/IllegalArgumentException", .methodLink RL 76 yX0_wholeRoot, .instanceMethod yX0_wholeRoot, .selects RX0 yX0_wholeRoot yX0_wholeRoot, .initialized RX0, .code yX0_wholeRoot cX0_wholeRoot 2 (some .int), .methodLink RX0 112 yX0_requireNumber, .static yX0_requireNumber, .code yX0_requireNumber cX0_requireNumber 1 none, .classLink RX0 39 "java/lang/IllegalArgumentException", .initialized "java/lang/IllegalArgumentException", .methodLink RX0 159 yX0_isNumber, .static yX0_isNumber, .code yX0_isNumber cX0_isNumber 1 (some .boolean), .methodLink RX0 130 yX0_wholePart, .static yX0_wholePart, .code yX0_wholePart cX0_wholePart 1 (some .int), .methodLink RX0 221 yX0_rootDigits, .static yX0_rootDigits, .code yX0_rootDigits cX0_rootDigits 9 (some .long)] ++ (vx_atS RX0 43 "java/lang/IllegalArgumentException" ["java/lang/RuntimeException", "java/lang/Exception"]).filter goodWord)
def wsL_isNearest_r1 : List Cond := [Cond.classLink RL 15 "java/lang/IllegalArgumentException", Cond.methodLink RL 79 yX0_isNearest, Cond.instanceMethod yX0_isNearest, Cond.selects RX0 yX0_isNearest yX0_isNearest, Cond.initialized RX0, Cond.code yX0_isNearest cX0_isNearest 9 (some .boolean), Cond.constantLong RX0 133 (2), Cond.methodLink RX0 112 yX0_requireNumber, Cond.static yX0_requireNumber, Cond.code yX0_requireNumber cX0_requireNumber 1 none, Cond.classLink RX0 39 "java/lang/IllegalArgumentException", Cond.initialized "java/lang/IllegalArgumentException", Cond.methodLink RX0 159 yX0_isNumber, Cond.static yX0_isNumber, Cond.code yX0_isNumber cX0_isNumber 1 (some .boolean), Cond.methodLink RX0 115 yX0_sixteenthsOf, Cond.static yX0_sixteenthsOf, Cond.code yX0_sixteenthsOf cX0_sixteenthsOf 2 (some .int), Cond.methodLink RX0 122 yX0_bitsOfRoot, Cond.static yX0_bitsOfRoot, Cond.code yX0_bitsOfRoot cX0_bitsOfRoot 6 (some .long), Cond.constantLong RX0 228 (4503599627370496), Cond.methodLink RX0 225 yX0_highestPair, Cond.static yX0_highestPair]
def wsL_isNearest_r2 : List Cond := [Cond.code yX0_highestPair cX0_highestPair 2 (some .int), Cond.methodLink RX0 221 yX0_rootDigits, Cond.static yX0_rootDigits, Cond.code yX0_rootDigits cX0_rootDigits 9 (some .long), Cond.methodLink RX0 96 yX0_unitsOf, Cond.static yX0_unitsOf, Cond.code yX0_unitsOf cX0_unitsOf 2 (some .long), Cond.constantLong RX0 230 (4503599627370495), Cond.methodLink RX0 99 yX0_placesAfterPoint, Cond.static yX0_placesAfterPoint, Cond.code yX0_placesAfterPoint cX0_placesAfterPoint 2 (some .int), Cond.methodLink RX0 103 yX0_compareSquare, Cond.static yX0_compareSquare, Cond.code yX0_compareSquare cX0_compareSquare 17 (some .int), Cond.constantLong RX0 232 (134217727), Cond.constantLong RX0 234 (18014398509481983)]
def wsL_isNearest : List Cond := .codeWith yL_isNearest cL_isNearest 5 (some .int) [(0, 17, 20, 15)] :: ((wsL_isNearest_r1 ++ wsL_isNearest_r2) ++ (vx_atS RX0 43 "java/lang/IllegalArgumentException" ["java/lang/RuntimeException", "java/lang/Exception"]).filter goodWord)
def wsL_isHalved_r1 : List Cond := [Cond.classLink RL 15 "java/lang/IllegalArgumentException", Cond.methodLink RL 83 yX0_isHalved, Cond.instanceMethod yX0_isHalved, Cond.selects RX0 yX0_isHalved yX0_isHalved, Cond.initialized RX0, Cond.code yX0_isHalved cX0_isHalved 2 (some .boolean), Cond.methodLink RX0 112 yX0_requireNumber, Cond.static yX0_requireNumber, Cond.code yX0_requireNumber cX0_requireNumber 1 none, Cond.classLink RX0 39 "java/lang/IllegalArgumentException", Cond.initialized "java/lang/IllegalArgumentException", Cond.methodLink RX0 159 yX0_isNumber, Cond.static yX0_isNumber, Cond.code yX0_isNumber cX0_isNumber 1 (some .boolean), Cond.methodLink RX0 115 yX0_sixteenthsOf, Cond.static yX0_sixteenthsOf, Cond.code yX0_sixteenthsOf cX0_sixteenthsOf 2 (some .int), Cond.methodLink RX0 122 yX0_bitsOfRoot, Cond.static yX0_bitsOfRoot, Cond.code yX0_bitsOfRoot cX0_bitsOfRoot 6 (some .long), Cond.constantLong RX0 228 (4503599627370496), Cond.methodLink RX0 225 yX0_highestPair, Cond.static yX0_highestPair, Cond.code yX0_highestPair cX0_highestPair 2 (some .int)]
def wsL_isHalved_r2 : List Cond := [Cond.methodLink RX0 221 yX0_rootDigits, Cond.static yX0_rootDigits, Cond.code yX0_rootDigits cX0_rootDigits 9 (some .long), Cond.methodLink RX0 88 yX0_twice, Cond.static yX0_twice, Cond.code yX0_twice cX0_twice 2 (some .long)]
def wsL_isHalved : List Cond := .codeWith yL_isHalved cL_isHalved 4 (some .int) [(0, 16, 19, 15)] :: ((wsL_isHalved_r1 ++ wsL_isHalved_r2) ++ (vx_atS RX0 43 "java/lang/IllegalArgumentException" ["java/lang/RuntimeException", "java/lang/Exception"]).filter goodWord)
def wsL_between : List Cond := .codeWith yL_between cL_between 6 (some .int) [(0, 12, 15, 15)] :: ([.classLink RL 15 "java/lang/IllegalArgumentException", .methodLink RL 86 yX0_between, .instanceMethod yX0_between, .selects RX0 yX0_between yX0_between, .initialized RX0, .code yX0_between cX0_between 4 (some .int), .methodLink RX0 112 yX0_requireNumber, .static yX0_requireNumber, .code yX0_requireNumber cX0_requireNumber 1 none, .classLink RX0 39 "java/lang/IllegalArgumentException", .initialized "java/lang/IllegalArgumentException", .methodLink RX0 159 yX0_isNumber, .static yX0_isNumber, .code yX0_isNumber cX0_isNumber 1 (some .boolean), .methodLink RX0 130 yX0_wholePart, .static yX0_wholePart, .code yX0_wholePart cX0_wholePart 1 (some .int), .methodLink RX0 221 yX0_rootDigits, .static yX0_rootDigits, .code yX0_rootDigits cX0_rootDigits 9 (some .long)] ++ (vx_atS RX0 43 "java/lang/IllegalArgumentException" ["java/lang/RuntimeException", "java/lang/Exception"]).filter goodWord)
def wsL_join_r1 : List Cond := [Cond.classLink RL 13 "java/lang/IndexOutOfBoundsException", Cond.classLink RL 21 "java/util/NoSuchElementException", Cond.classLink RL 23 "java/lang/IllegalStateException", Cond.methodLink RL 90 yX0_join, Cond.instanceMethod yX0_join, Cond.selects RX0 yX0_join yX0_join, Cond.initialized RX0, Cond.code yX0_join cX0_join 2 (some .int), Cond.classLink RX0 59 "java/lang/IllegalStateException", Cond.initialized "java/lang/IllegalStateException", Cond.fieldLink RX0 23 "Pegfield" "ringSize" "I", Cond.fieldLink RX0 20 "Pegfield" "ring" "[I", Cond.methodLink RX0 31 yX0_requirePeg, Cond.static yX0_requirePeg, Cond.code yX0_requirePeg cX0_requirePeg 1 none, Cond.classLink RX0 142 "java/lang/IndexOutOfBoundsException", Cond.initialized "java/lang/IndexOutOfBoundsException", Cond.methodLink RX0 64 yX0_isPeg, Cond.static yX0_isPeg, Cond.code yX0_isPeg cX0_isPeg 1 (some .boolean), Cond.methodLink RX0 53 yX0_requireStanding, Cond.instanceMethod yX0_requireStanding, Cond.selects RX0 yX0_requireStanding yX0_requireStanding, Cond.code yX0_requireStanding cX0_requireStanding 2 none]
def wsL_join_r2 : List Cond := [Cond.classLink RX0 214 "java/util/NoSuchElementException", Cond.initialized "java/util/NoSuchElementException", Cond.methodLink RX0 46 yX0_stands, Cond.instanceMethod yX0_stands, Cond.selects RX0 yX0_stands yX0_stands, Cond.code yX0_stands cX0_stands 2 (some .boolean), Cond.fieldLink RX0 9 "Pegfield" "standing" "[Z"]
def wsL_join : List Cond := .codeWith yL_join cL_join 4 (some .int) [(0, 9, 12, 13), (0, 9, 15, 21), (0, 9, 18, 23)] :: ((wsL_join_r1 ++ wsL_join_r2) ++ wsX00 ++ (vx_atS RX0 63 "java/lang/IllegalStateException" ["java/lang/RuntimeException", "java/lang/Exception"]).filter goodWord ++ (vx_atS RX0 146 "java/lang/IndexOutOfBoundsException" ["java/lang/RuntimeException", "java/lang/Exception"]).filter goodWord ++ (pg_atX RX0 218 "java/util/NoSuchElementException" 13 prog_13_method_4_code "java/lang/RuntimeException" ["java/lang/Exception"]).filter goodWord)
def wsL_unjoin : List Cond := .codeWith yL_unjoin cL_unjoin 3 (some .int) [(0, 8, 11, 23)] :: ([.classLink RL 23 "java/lang/IllegalStateException", .methodLink RL 93 yX0_unjoin, .instanceMethod yX0_unjoin, .selects RX0 yX0_unjoin yX0_unjoin, .initialized RX0, .code yX0_unjoin cX0_unjoin 1 (some .int), .classLink RX0 59 "java/lang/IllegalStateException", .initialized "java/lang/IllegalStateException", .fieldLink RX0 23 "Pegfield" "ringSize" "I", .methodLink RX0 139 yX0_pegInRing, .instanceMethod yX0_pegInRing, .selects RX0 yX0_pegInRing yX0_pegInRing, .code yX0_pegInRing cX0_pegInRing 2 (some .int), .fieldLink RX0 20 "Pegfield" "ring" "[I"] ++ wsX00 ++ (vx_atS RX0 63 "java/lang/IllegalStateException" ["java/lang/RuntimeException", "java/lang/Exception"]).filter goodWord)
def wsL_ringAt : List Cond := .codeWith yL_ringAt cL_ringAt 4 (some .int) [(0, 9, 12, 13)] :: ([.classLink RL 13 "java/lang/IndexOutOfBoundsException", .methodLink RL 97 yX0_ringAt, .instanceMethod yX0_ringAt, .selects RX0 yX0_ringAt yX0_ringAt, .initialized RX0, .code yX0_ringAt cX0_ringAt 2 (some .int), .classLink RX0 142 "java/lang/IndexOutOfBoundsException", .initialized "java/lang/IndexOutOfBoundsException", .fieldLink RX0 23 "Pegfield" "ringSize" "I", .methodLink RX0 139 yX0_pegInRing, .instanceMethod yX0_pegInRing, .selects RX0 yX0_pegInRing yX0_pegInRing, .code yX0_pegInRing cX0_pegInRing 2 (some .int), .fieldLink RX0 20 "Pegfield" "ring" "[I"] ++ wsX00 ++ (vx_atS RX0 146 "java/lang/IndexOutOfBoundsException" ["java/lang/RuntimeException", "java/lang/Exception"]).filter goodWord)
def wsL_sideBits_r1 : List Cond := [Cond.classLink RL 23 "java/lang/IllegalStateException", Cond.methodLink RL 100 yX0_sideBits, Cond.instanceMethod yX0_sideBits, Cond.selects RX0 yX0_sideBits yX0_sideBits, Cond.initialized RX0, Cond.code yX0_sideBits cX0_sideBits 2 (some .long), Cond.classLink RX0 59 "java/lang/IllegalStateException", Cond.initialized "java/lang/IllegalStateException", Cond.methodLink RX0 154 Lib.Math.abs.name, Cond.static Lib.Math.abs.name, Cond.initialized "java/lang/Math", Cond.code Lib.Math.abs.name Lib.Math.abs.code 1 (some .int), Cond.methodLink RX0 150 yX0_doubleArea, Cond.instanceMethod yX0_doubleArea, Cond.selects RX0 yX0_doubleArea yX0_doubleArea, Cond.code yX0_doubleArea cX0_doubleArea 5 (some .int), Cond.fieldLink RX0 23 "Pegfield" "ringSize" "I", Cond.methodLink RX0 139 yX0_pegInRing, Cond.instanceMethod yX0_pegInRing, Cond.selects RX0 yX0_pegInRing yX0_pegInRing, Cond.code yX0_pegInRing cX0_pegInRing 2 (some .int), Cond.fieldLink RX0 20 "Pegfield" "ring" "[I", Cond.methodLink RX0 147 yX0_placeAfter, Cond.instanceMethod yX0_placeAfter]
def wsL_sideBits_r2 : List Cond := [Cond.selects RX0 yX0_placeAfter yX0_placeAfter, Cond.code yX0_placeAfter cX0_placeAfter 2 (some .int), Cond.methodLink RX0 69 yX0_across, Cond.instanceMethod yX0_across, Cond.selects RX0 yX0_across yX0_across, Cond.code yX0_across cX0_across 2 (some .int), Cond.fieldLink RX0 13 "Pegfield" "acrossOf" "[I", Cond.methodLink RX0 64 yX0_isPeg, Cond.static yX0_isPeg, Cond.code yX0_isPeg cX0_isPeg 1 (some .boolean), Cond.methodLink RX0 73 yX0_up, Cond.instanceMethod yX0_up, Cond.selects RX0 yX0_up yX0_up, Cond.code yX0_up cX0_up 2 (some .int), Cond.fieldLink RX0 17 "Pegfield" "upOf" "[I", Cond.methodLink RX0 159 yX0_isNumber, Cond.static yX0_isNumber, Cond.code yX0_isNumber cX0_isNumber 1 (some .boolean), Cond.methodLink RX0 115 yX0_sixteenthsOf, Cond.static yX0_sixteenthsOf, Cond.code yX0_sixteenthsOf cX0_sixteenthsOf 2 (some .int), Cond.methodLink RX0 122 yX0_bitsOfRoot, Cond.static yX0_bitsOfRoot, Cond.code yX0_bitsOfRoot cX0_bitsOfRoot 6 (some .long)]
def wsL_sideBits_r3 : List Cond := [Cond.constantLong RX0 228 (4503599627370496), Cond.methodLink RX0 225 yX0_highestPair, Cond.static yX0_highestPair, Cond.code yX0_highestPair cX0_highestPair 2 (some .int), Cond.methodLink RX0 221 yX0_rootDigits, Cond.static yX0_rootDigits, Cond.code yX0_rootDigits cX0_rootDigits 9 (some .long)]
def wsL_sideBits : List Cond := .codeWith yL_sideBits cL_sideBits 3 (some .int) [(0, 7, 10, 23)] :: ((wsL_sideBits_r1 ++ (wsL_sideBits_r2 ++ wsL_sideBits_r3)) ++ wsX00 ++ (vx_atS RX0 63 "java/lang/IllegalStateException" ["java/lang/RuntimeException", "java/lang/Exception"]).filter goodWord)
def wsL_law0_r1 : List Cond := [Cond.classLink RL 8 RX0, Cond.instantiable RX0 6, Cond.initialized RX0, Cond.classLink RL 105 RX1, Cond.instantiable RX1 7, Cond.initialized RX1, Cond.arrayClass .long, Cond.arrayClass .double, Cond.methodLink RL 104 yX0_init, Cond.instanceMethod yX0_init, Cond.code yX0_init cX0_init 1 none, Cond.methodLink RX0 3 objectInit, Cond.instanceMethod objectInit, Cond.code objectInit ⟨#[0xb1]⟩ 1 none, Cond.arrayClass .boolean, Cond.fieldLink RX0 9 "Pegfield" "standing" "[Z", Cond.arrayClass .int, Cond.fieldLink RX0 13 "Pegfield" "acrossOf" "[I", Cond.fieldLink RX0 17 "Pegfield" "upOf" "[I", Cond.fieldLink RX0 20 "Pegfield" "ring" "[I", Cond.fieldLink RX0 23 "Pegfield" "ringSize" "I", Cond.fieldLink RX0 27 "Pegfield" "wide" "Z", Cond.methodLink RL 107 yX1_init, Cond.instanceMethod yX1_init]
def wsL_law0_r2 : List Cond := [Cond.code yX1_init cX1_init 1 none, Cond.methodLink RX1 1 objectInit, Cond.fieldLink RX1 7 "PegfieldModel" "stands" "[Z", Cond.fieldLink RX1 13 "PegfieldModel" "across" "[I", Cond.fieldLink RX1 17 "PegfieldModel" "up" "[I", Cond.fieldLink RX1 20 "PegfieldModel" "ring" "[I", Cond.fieldLink RX1 23 "PegfieldModel" "thrown" "I", Cond.methodLink RL 108 yL_put, Cond.static yL_put, Cond.initialized RL, Cond.codeWith yL_put cL_put 6 (some .int) [(0, 19, 22, 13), (0, 19, 26, 15)], Cond.classLink RL 13 "java/lang/IndexOutOfBoundsException", Cond.classLink RL 15 "java/lang/IllegalArgumentException", Cond.methodLink RL 7 yX0_put, Cond.instanceMethod yX0_put, Cond.selects RX0 yX0_put yX0_put, Cond.code yX0_put cX0_put 5 (some .boolean), Cond.classLink RX0 39 "java/lang/IllegalArgumentException", Cond.initialized "java/lang/IllegalArgumentException", Cond.methodLink RX0 31 yX0_requirePeg, Cond.static yX0_requirePeg, Cond.code yX0_requirePeg cX0_requirePeg 1 none, Cond.classLink RX0 142 "java/lang/IndexOutOfBoundsException", Cond.initialized "java/lang/IndexOutOfBoundsException"]
def wsL_law0_r3 : List Cond := [Cond.methodLink RX0 64 yX0_isPeg, Cond.static yX0_isPeg, Cond.code yX0_isPeg cX0_isPeg 1 (some .boolean), Cond.methodLink RX0 35 yX0_isPlace, Cond.static yX0_isPlace, Cond.code yX0_isPlace cX0_isPlace 1 (some .boolean), Cond.methodLink RX0 46 yX0_stands, Cond.instanceMethod yX0_stands, Cond.selects RX0 yX0_stands yX0_stands, Cond.code yX0_stands cX0_stands 2 (some .boolean), Cond.methodLink RX0 49 yX0_moveTo, Cond.instanceMethod yX0_moveTo, Cond.selects RX0 yX0_moveTo yX0_moveTo, Cond.code yX0_moveTo cX0_moveTo 4 none, Cond.methodLink RL 113 yX1_put, Cond.instanceMethod yX1_put, Cond.selects RX1 yX1_put yX1_put, Cond.code yX1_put cX1_put 5 (some .boolean), Cond.methodLink RX1 35 yX1_isNoNumber, Cond.instanceMethod yX1_isNoNumber, Cond.selects RX1 yX1_isNoNumber yX1_isNoNumber, Cond.code yX1_isNoNumber cX1_isNoNumber 2 (some .boolean), Cond.methodLink RX1 27 yX1_lies, Cond.static yX1_lies]
def wsL_law0_r4 : List Cond := [Cond.code yX1_lies cX1_lies 3 (some .boolean), Cond.methodLink RX1 31 yX1_isThrown, Cond.instanceMethod yX1_isThrown, Cond.selects RX1 yX1_isThrown yX1_isThrown, Cond.code yX1_isThrown cX1_isThrown 3 (some .boolean), Cond.methodLink RL 114 yX1_thrown, Cond.instanceMethod yX1_thrown, Cond.selects RX1 yX1_thrown yX1_thrown, Cond.code yX1_thrown cX1_thrown 1 (some .int), Cond.methodLink RL 117 yL_take, Cond.static yL_take, Cond.codeWith yL_take cL_take 3 (some .int) [(0, 5, 8, 13), (0, 5, 11, 21), (0, 5, 14, 23)], Cond.classLink RL 21 "java/util/NoSuchElementException", Cond.classLink RL 23 "java/lang/IllegalStateException", Cond.methodLink RL 17 yX0_take, Cond.instanceMethod yX0_take, Cond.selects RX0 yX0_take yX0_take, Cond.code yX0_take cX0_take 2 none, Cond.classLink RX0 59 "java/lang/IllegalStateException", Cond.initialized "java/lang/IllegalStateException", Cond.methodLink RX0 53 yX0_requireStanding, Cond.instanceMethod yX0_requireStanding, Cond.selects RX0 yX0_requireStanding yX0_requireStanding, Cond.code yX0_requireStanding cX0_requireStanding 2 none]
def wsL_law0_r5 : List Cond := [Cond.classLink RX0 214 "java/util/NoSuchElementException", Cond.initialized "java/util/NoSuchElementException", Cond.methodLink RX0 56 yX0_isInRing, Cond.instanceMethod yX0_isInRing, Cond.selects RX0 yX0_isInRing yX0_isInRing, Cond.code yX0_isInRing cX0_isInRing 3 (some .boolean), Cond.methodLink RX0 139 yX0_pegInRing, Cond.instanceMethod yX0_pegInRing, Cond.selects RX0 yX0_pegInRing yX0_pegInRing, Cond.code yX0_pegInRing cX0_pegInRing 2 (some .int), Cond.methodLink RL 120 yX1_take, Cond.instanceMethod yX1_take, Cond.selects RX1 yX1_take yX1_take, Cond.code yX1_take cX1_take 2 none, Cond.methodLink RX1 63 yX1_isNoPeg, Cond.instanceMethod yX1_isNoPeg, Cond.selects RX1 yX1_isNoPeg yX1_isNoPeg, Cond.code yX1_isNoPeg cX1_isNoPeg 2 (some .boolean), Cond.methodLink RX1 66 yX1_isInRing, Cond.instanceMethod yX1_isInRing, Cond.selects RX1 yX1_isInRing yX1_isInRing, Cond.code yX1_isInRing cX1_isInRing 4 (some .boolean), Cond.fieldLink RX1 60 "PegfieldModel" "size" "I", Cond.methodLink RL 121 yL_step]
def wsL_law0_r6 : List Cond := [Cond.static yL_step, Cond.codeWith yL_step cL_step 5 (some .int) [(0, 17, 20, 13), (0, 17, 24, 21), (0, 17, 28, 15)], Cond.methodLink RL 25 yX0_step, Cond.instanceMethod yX0_step, Cond.selects RX0 yX0_step yX0_step, Cond.code yX0_step cX0_step 5 (some .boolean), Cond.methodLink RX0 69 yX0_across, Cond.instanceMethod yX0_across, Cond.selects RX0 yX0_across yX0_across, Cond.code yX0_across cX0_across 2 (some .int), Cond.methodLink RX0 73 yX0_up, Cond.instanceMethod yX0_up, Cond.selects RX0 yX0_up yX0_up, Cond.code yX0_up cX0_up 2 (some .int), Cond.methodLink RL 124 yX1_step, Cond.instanceMethod yX1_step, Cond.selects RX1 yX1_step yX1_step, Cond.code yX1_step cX1_step 5 (some .boolean), Cond.methodLink RL 125 yL_isThere, Cond.static yL_isThere, Cond.codeWith yL_isThere cL_isThere 4 (some .int) [(0, 16, 19, 13)], Cond.methodLink RL 29 yX0_isThere, Cond.instanceMethod yX0_isThere, Cond.selects RX0 yX0_isThere yX0_isThere]
def wsL_law0_r7 : List Cond := [Cond.code yX0_isThere cX0_isThere 2 (some .boolean), Cond.methodLink RL 128 yX1_isThere, Cond.instanceMethod yX1_isThere, Cond.selects RX1 yX1_isThere yX1_isThere, Cond.code yX1_isThere cX1_isThere 2 (some .boolean), Cond.methodLink RL 129 yL_placeOf, Cond.static yL_placeOf, Cond.codeWith yL_placeOf cL_placeOf 4 (some .int) [(0, 9, 12, 13), (0, 9, 15, 21)], Cond.methodLink RL 33 yX0_placeOf, Cond.instanceMethod yX0_placeOf, Cond.selects RX0 yX0_placeOf yX0_placeOf, Cond.code yX0_placeOf cX0_placeOf 2 (some .int), Cond.methodLink RL 131 yX1_placeOf, Cond.instanceMethod yX1_placeOf, Cond.selects RX1 yX1_placeOf yX1_placeOf, Cond.code yX1_placeOf cX1_placeOf 2 (some .int), Cond.methodLink RX1 69 yX1_placed, Cond.instanceMethod yX1_placed, Cond.selects RX1 yX1_placed yX1_placed, Cond.code yX1_placed cX1_placed 2 (some .int), Cond.methodLink RL 132 yX0_count, Cond.instanceMethod yX0_count, Cond.selects RX0 yX0_count yX0_count, Cond.code yX0_count cX0_count 3 (some .int)]
def wsL_law0_r8 : List Cond := [Cond.methodLink RL 135 yX1_count, Cond.instanceMethod yX1_count, Cond.selects RX1 yX1_count yX1_count, Cond.code yX1_count cX1_count 3 (some .int), Cond.methodLink RL 136 yX0_widen, Cond.instanceMethod yX0_widen, Cond.selects RX0 yX0_widen yX0_widen, Cond.code yX0_widen cX0_widen 3 (some .boolean), Cond.methodLink RL 140 yX1_widen, Cond.instanceMethod yX1_widen, Cond.selects RX1 yX1_widen yX1_widen, Cond.code yX1_widen cX1_widen 3 (some .boolean), Cond.fieldLink RX1 72 "PegfieldModel" "isWide" "Z", Cond.methodLink RL 141 yL_stretch, Cond.static yL_stretch, Cond.codeWith yL_stretch cL_stretch 5 (some .int) [(0, 10, 13, 13), (0, 10, 17, 21)], Cond.methodLink RL 37 yX0_stretch, Cond.instanceMethod yX0_stretch, Cond.selects RX0 yX0_stretch yX0_stretch, Cond.code yX0_stretch cX0_stretch 3 (some .int), Cond.methodLink RX0 76 yX0_requireTwo, Cond.instanceMethod yX0_requireTwo, Cond.selects RX0 yX0_requireTwo yX0_requireTwo, Cond.code yX0_requireTwo cX0_requireTwo 3 none]
def wsL_law0_r9 : List Cond := [Cond.methodLink RX0 80 yX0_stretchGrains, Cond.instanceMethod yX0_stretchGrains, Cond.selects RX0 yX0_stretchGrains yX0_stretchGrains, Cond.code yX0_stretchGrains cX0_stretchGrains 3 (some .int), Cond.methodLink RX0 92 yX0_squareSum, Cond.static yX0_squareSum, Cond.code yX0_squareSum cX0_squareSum 4 (some .int), Cond.methodLink RX0 119 yX0_grainsOfRoot, Cond.static yX0_grainsOfRoot, Cond.code yX0_grainsOfRoot cX0_grainsOfRoot 1 (some .int), Cond.methodLink RX0 221 yX0_rootDigits, Cond.static yX0_rootDigits, Cond.code yX0_rootDigits cX0_rootDigits 9 (some .long), Cond.methodLink RL 144 yX1_stretch, Cond.instanceMethod yX1_stretch, Cond.selects RX1 yX1_stretch yX1_stretch, Cond.code yX1_stretch cX1_stretch 3 (some .int), Cond.methodLink RX1 76 yX1_isNoPair, Cond.instanceMethod yX1_isNoPair, Cond.selects RX1 yX1_isNoPair yX1_isNoPair, Cond.code yX1_isNoPair cX1_isNoPair 3 (some .boolean), Cond.methodLink RX1 80 yX1_grainsOf, Cond.instanceMethod yX1_grainsOf, Cond.selects RX1 yX1_grainsOf yX1_grainsOf]
def wsL_law0_r10 : List Cond := [Cond.code yX1_grainsOf cX1_grainsOf 5 (some .int), Cond.methodLink RX1 55 yX1_near, Cond.static yX1_near, Cond.code yX1_near cX1_near 2 (some .long), Cond.constantLong RX1 41 (2), Cond.methodLink RX1 43 yX1_rooted, Cond.static yX1_rooted, Cond.code yX1_rooted cX1_rooted 10 (some .long), Cond.constantLong RX1 39 (4), Cond.methodLink RL 145 yL_isSteady, Cond.static yL_isSteady, Cond.codeWith yL_isSteady cL_isSteady 5 (some .int) [(0, 17, 20, 13), (0, 17, 24, 21)], Cond.methodLink RL 41 yX0_isSteady, Cond.instanceMethod yX0_isSteady, Cond.selects RX0 yX0_isSteady yX0_isSteady, Cond.code yX0_isSteady cX0_isSteady 10 (some .boolean), Cond.methodLink RX0 84 yX0_hypotenuseBits, Cond.static yX0_hypotenuseBits, Cond.code yX0_hypotenuseBits cX0_hypotenuseBits 3 (some .long), Cond.methodLink RX0 122 yX0_bitsOfRoot, Cond.static yX0_bitsOfRoot, Cond.code yX0_bitsOfRoot cX0_bitsOfRoot 6 (some .long), Cond.constantLong RX0 228 (4503599627370496), Cond.methodLink RX0 225 yX0_highestPair]
def wsL_law0_r11 : List Cond := [Cond.static yX0_highestPair, Cond.code yX0_highestPair cX0_highestPair 2 (some .int), Cond.methodLink RL 147 yX1_isSteady, Cond.instanceMethod yX1_isSteady, Cond.selects RX1 yX1_isSteady yX1_isSteady, Cond.code yX1_isSteady cX1_isSteady 3 (some .boolean), Cond.methodLink RL 148 yL_isDoubled, Cond.static yL_isDoubled, Cond.codeWith yL_isDoubled cL_isDoubled 5 (some .int) [(0, 17, 20, 13), (0, 17, 24, 21)], Cond.methodLink RL 45 yX0_isDoubled, Cond.instanceMethod yX0_isDoubled, Cond.selects RX0 yX0_isDoubled yX0_isDoubled, Cond.code yX0_isDoubled cX0_isDoubled 5 (some .boolean), Cond.methodLink RX0 88 yX0_twice, Cond.static yX0_twice, Cond.code yX0_twice cX0_twice 2 (some .long), Cond.methodLink RL 150 yX1_isDoubled, Cond.instanceMethod yX1_isDoubled, Cond.selects RX1 yX1_isDoubled yX1_isDoubled, Cond.code yX1_isDoubled cX1_isDoubled 3 (some .boolean), Cond.methodLink RL 151 yL_isClose, Cond.static yL_isClose, Cond.codeWith yL_isClose cL_isClose 5 (some .int) [(0, 17, 20, 13), (0, 17, 24, 21)], Cond.methodLink RL 48 yX0_isClose]
def wsL_law0_r12 : List Cond := [Cond.instanceMethod yX0_isClose, Cond.selects RX0 yX0_isClose yX0_isClose, Cond.code yX0_isClose cX0_isClose 11 (some .boolean), Cond.methodLink RX0 96 yX0_unitsOf, Cond.static yX0_unitsOf, Cond.code yX0_unitsOf cX0_unitsOf 2 (some .long), Cond.constantLong RX0 230 (4503599627370495), Cond.methodLink RX0 99 yX0_placesAfterPoint, Cond.static yX0_placesAfterPoint, Cond.code yX0_placesAfterPoint cX0_placesAfterPoint 2 (some .int), Cond.methodLink RX0 103 yX0_compareSquare, Cond.static yX0_compareSquare, Cond.code yX0_compareSquare cX0_compareSquare 17 (some .int), Cond.constantLong RX0 232 (134217727), Cond.constantLong RX0 133 (2), Cond.constantLong RX0 234 (18014398509481983), Cond.methodLink RL 153 yX1_isClose, Cond.instanceMethod yX1_isClose, Cond.selects RX1 yX1_isClose yX1_isClose, Cond.code yX1_isClose cX1_isClose 3 (some .boolean), Cond.methodLink RL 154 yL_isStraight, Cond.static yL_isStraight, Cond.codeWith yL_isStraight cL_isStraight 6 (some .int) [(0, 19, 22, 13), (0, 19, 26, 21)], Cond.methodLink RL 51 yX0_isStraight]
def wsL_law0_r13 : List Cond := [Cond.instanceMethod yX0_isStraight, Cond.selects RX0 yX0_isStraight yX0_isStraight, Cond.code yX0_isStraight cX0_isStraight 4 (some .boolean), Cond.methodLink RL 156 yX1_isStraight, Cond.instanceMethod yX1_isStraight, Cond.selects RX1 yX1_isStraight yX1_isStraight, Cond.code yX1_isStraight cX1_isStraight 4 (some .boolean), Cond.methodLink RX1 84 yX1_isNoLonger, Cond.instanceMethod yX1_isNoLonger, Cond.selects RX1 yX1_isNoLonger yX1_isNoLonger, Cond.code yX1_isNoLonger cX1_isNoLonger 4 (some .boolean), Cond.methodLink RL 157 yL_nearest, Cond.static yL_nearest, Cond.codeWith yL_nearest cL_nearest 4 (some .int) [(0, 9, 12, 13), (0, 9, 15, 21), (0, 9, 18, 23)], Cond.methodLink RL 54 yX0_nearest, Cond.instanceMethod yX0_nearest, Cond.selects RX0 yX0_nearest yX0_nearest, Cond.code yX0_nearest cX0_nearest 3 (some .int), Cond.methodLink RX0 107 yX0_nearestOther, Cond.instanceMethod yX0_nearestOther, Cond.selects RX0 yX0_nearestOther yX0_nearestOther, Cond.code yX0_nearestOther cX0_nearestOther 6 (some .int), Cond.methodLink RL 159 yX1_nearest, Cond.instanceMethod yX1_nearest]
def wsL_law0_r14 : List Cond := [Cond.selects RX1 yX1_nearest yX1_nearest, Cond.code yX1_nearest cX1_nearest 2 (some .int), Cond.methodLink RX1 87 yX1_count, Cond.methodLink RX1 91 yX1_nearestTo, Cond.instanceMethod yX1_nearestTo, Cond.selects RX1 yX1_nearestTo yX1_nearestTo, Cond.code yX1_nearestTo cX1_nearestTo 4 (some .int), Cond.methodLink RL 160 yL_rank, Cond.static yL_rank, Cond.codeWith yL_rank cL_rank 5 (some .int) [(0, 10, 13, 13), (0, 10, 17, 21)], Cond.methodLink RL 57 yX0_rank, Cond.instanceMethod yX0_rank, Cond.selects RX0 yX0_rank yX0_rank, Cond.code yX0_rank cX0_rank 7 (some .int), Cond.methodLink RL 162 yX1_rank, Cond.instanceMethod yX1_rank, Cond.selects RX1 yX1_rank yX1_rank, Cond.code yX1_rank cX1_rank 6 (some .int), Cond.methodLink RL 163 yL_isIn, Cond.static yL_isIn, Cond.codeWith yL_isIn cL_isIn 7 (some .int) [(0, 21, 24, 13), (0, 21, 28, 21), (0, 21, 32, 15)], Cond.methodLink RL 60 yX0_isIn, Cond.instanceMethod yX0_isIn, Cond.selects RX0 yX0_isIn yX0_isIn]
def wsL_law0_r15 : List Cond := [Cond.code yX0_isIn cX0_isIn 5 (some .boolean), Cond.methodLink RX0 112 yX0_requireNumber, Cond.static yX0_requireNumber, Cond.code yX0_requireNumber cX0_requireNumber 1 none, Cond.methodLink RX0 159 yX0_isNumber, Cond.static yX0_isNumber, Cond.code yX0_isNumber cX0_isNumber 1 (some .boolean), Cond.methodLink RX0 115 yX0_sixteenthsOf, Cond.static yX0_sixteenthsOf, Cond.code yX0_sixteenthsOf cX0_sixteenthsOf 2 (some .int), Cond.methodLink RL 166 yX1_isIn, Cond.instanceMethod yX1_isIn, Cond.selects RX1 yX1_isIn yX1_isIn, Cond.code yX1_isIn cX1_isIn 5 (some .boolean), Cond.methodLink RX1 94 yX1_isNoAsked, Cond.instanceMethod yX1_isNoAsked, Cond.selects RX1 yX1_isNoAsked yX1_isNoAsked, Cond.code yX1_isNoAsked cX1_isNoAsked 3 (some .boolean), Cond.methodLink RX1 97 yX1_rootGrainsOf, Cond.static yX1_rootGrainsOf, Cond.code yX1_rootGrainsOf cX1_rootGrainsOf 2 (some .int), Cond.methodLink RL 167 yL_root, Cond.static yL_root, Cond.codeWith yL_root cL_root 5 (some .int) [(0, 9, 12, 15)]]
def wsL_law0_r16 : List Cond := [Cond.methodLink RL 64 yX0_root, Cond.instanceMethod yX0_root, Cond.selects RX0 yX0_root yX0_root, Cond.code yX0_root cX0_root 3 (some .double), Cond.methodLink RX0 126 yX0_doubleOf, Cond.static yX0_doubleOf, Cond.code yX0_doubleOf cX0_doubleOf 4 (some .double), Cond.methodLink RL 170 yX1_root, Cond.instanceMethod yX1_root, Cond.selects RX1 yX1_root yX1_root, Cond.code yX1_root cX1_root 7 (some .double), Cond.constantDouble RX1 101 (4611686018427387904), Cond.methodLink RX1 47 yX1_powerOf, Cond.static yX1_powerOf, Cond.code yX1_powerOf cX1_powerOf 4 (some .int), Cond.methodLink RL 171 yL_rootBits, Cond.static yL_rootBits, Cond.codeWith yL_rootBits cL_rootBits 5 (some .int) [(0, 9, 12, 15)], Cond.methodLink RL 68 yX0_rootBits, Cond.instanceMethod yX0_rootBits, Cond.selects RX0 yX0_rootBits yX0_rootBits, Cond.code yX0_rootBits cX0_rootBits 3 (some .long), Cond.methodLink RL 174 yX1_rootBits, Cond.instanceMethod yX1_rootBits]
def wsL_law0_r17 : List Cond := [Cond.selects RX1 yX1_rootBits yX1_rootBits, Cond.code yX1_rootBits cX1_rootBits 3 (some .long), Cond.methodLink RX1 103 yX1_bitsOf, Cond.static yX1_bitsOf, Cond.code yX1_bitsOf cX1_bitsOf 5 (some .long), Cond.constantLong RX1 51 (1022), Cond.constantLong RX1 53 (1023), Cond.constantLong RX1 58 (4503599627370496), Cond.methodLink RL 175 yL_rootGrains, Cond.static yL_rootGrains, Cond.codeWith yL_rootGrains cL_rootGrains 5 (some .int) [(0, 10, 13, 15)], Cond.methodLink RL 72 yX0_rootGrains, Cond.instanceMethod yX0_rootGrains, Cond.selects RX0 yX0_rootGrains yX0_rootGrains, Cond.code yX0_rootGrains cX0_rootGrains 3 (some .int), Cond.methodLink RL 177 yX1_rootGrains, Cond.instanceMethod yX1_rootGrains, Cond.selects RX1 yX1_rootGrains yX1_rootGrains, Cond.code yX1_rootGrains cX1_rootGrains 3 (some .int), Cond.methodLink RL 178 yL_wholeRoot, Cond.static yL_wholeRoot, Cond.codeWith yL_wholeRoot cL_wholeRoot 4 (some .int) [(0, 9, 12, 15)], Cond.methodLink RL 76 yX0_wholeRoot, Cond.instanceMethod yX0_wholeRoot]
def wsL_law0_r18 : List Cond := [Cond.selects RX0 yX0_wholeRoot yX0_wholeRoot, Cond.code yX0_wholeRoot cX0_wholeRoot 2 (some .int), Cond.methodLink RX0 130 yX0_wholePart, Cond.static yX0_wholePart, Cond.code yX0_wholePart cX0_wholePart 1 (some .int), Cond.methodLink RL 180 yX1_wholeRoot, Cond.instanceMethod yX1_wholeRoot, Cond.selects RX1 yX1_wholeRoot yX1_wholeRoot, Cond.code yX1_wholeRoot cX1_wholeRoot 2 (some .int), Cond.methodLink RX1 107 yX1_wholeOf, Cond.static yX1_wholeOf, Cond.code yX1_wholeOf cX1_wholeOf 2 (some .int), Cond.methodLink RL 181 yL_isNearest, Cond.static yL_isNearest, Cond.codeWith yL_isNearest cL_isNearest 5 (some .int) [(0, 17, 20, 15)], Cond.methodLink RL 79 yX0_isNearest, Cond.instanceMethod yX0_isNearest, Cond.selects RX0 yX0_isNearest yX0_isNearest, Cond.code yX0_isNearest cX0_isNearest 9 (some .boolean), Cond.methodLink RL 183 yX1_isNearest, Cond.instanceMethod yX1_isNearest, Cond.selects RX1 yX1_isNearest yX1_isNearest, Cond.code yX1_isNearest cX1_isNearest 3 (some .boolean), Cond.methodLink RL 184 yL_isHalved]
def wsL_law0_r19 : List Cond := [Cond.static yL_isHalved, Cond.codeWith yL_isHalved cL_isHalved 4 (some .int) [(0, 16, 19, 15)], Cond.methodLink RL 83 yX0_isHalved, Cond.instanceMethod yX0_isHalved, Cond.selects RX0 yX0_isHalved yX0_isHalved, Cond.code yX0_isHalved cX0_isHalved 2 (some .boolean), Cond.methodLink RL 186 yX1_isHalved, Cond.instanceMethod yX1_isHalved, Cond.selects RX1 yX1_isHalved yX1_isHalved, Cond.code yX1_isHalved cX1_isHalved 2 (some .boolean), Cond.methodLink RL 187 yL_between, Cond.static yL_between, Cond.codeWith yL_between cL_between 6 (some .int) [(0, 12, 15, 15)], Cond.methodLink RL 86 yX0_between, Cond.instanceMethod yX0_between, Cond.selects RX0 yX0_between yX0_between, Cond.code yX0_between cX0_between 4 (some .int), Cond.methodLink RL 190 yX1_between, Cond.instanceMethod yX1_between, Cond.selects RX1 yX1_between yX1_between, Cond.code yX1_between cX1_between 4 (some .int), Cond.methodLink RL 191 yL_join, Cond.static yL_join, Cond.codeWith yL_join cL_join 4 (some .int) [(0, 9, 12, 13), (0, 9, 15, 21), (0, 9, 18, 23)]]
def wsL_law0_r20 : List Cond := [Cond.methodLink RL 90 yX0_join, Cond.instanceMethod yX0_join, Cond.selects RX0 yX0_join yX0_join, Cond.code yX0_join cX0_join 2 (some .int), Cond.methodLink RL 193 yX1_join, Cond.instanceMethod yX1_join, Cond.selects RX1 yX1_join yX1_join, Cond.code yX1_join cX1_join 2 (some .int), Cond.methodLink RL 194 yL_unjoin, Cond.static yL_unjoin, Cond.codeWith yL_unjoin cL_unjoin 3 (some .int) [(0, 8, 11, 23)], Cond.methodLink RL 93 yX0_unjoin, Cond.instanceMethod yX0_unjoin, Cond.selects RX0 yX0_unjoin yX0_unjoin, Cond.code yX0_unjoin cX0_unjoin 1 (some .int), Cond.methodLink RL 197 yX1_unjoin, Cond.instanceMethod yX1_unjoin, Cond.selects RX1 yX1_unjoin yX1_unjoin, Cond.code yX1_unjoin cX1_unjoin 1 (some .int), Cond.methodLink RL 198 yL_ringAt, Cond.static yL_ringAt, Cond.codeWith yL_ringAt cL_ringAt 4 (some .int) [(0, 9, 12, 13)], Cond.methodLink RL 97 yX0_ringAt, Cond.instanceMethod yX0_ringAt]
def wsL_law0_r21 : List Cond := [Cond.selects RX0 yX0_ringAt yX0_ringAt, Cond.code yX0_ringAt cX0_ringAt 2 (some .int), Cond.methodLink RL 200 yX1_ringAt, Cond.instanceMethod yX1_ringAt, Cond.selects RX1 yX1_ringAt yX1_ringAt, Cond.code yX1_ringAt cX1_ringAt 2 (some .int), Cond.methodLink RL 201 yX0_around, Cond.instanceMethod yX0_around, Cond.selects RX0 yX0_around yX0_around, Cond.code yX0_around cX0_around 3 (some .int), Cond.methodLink RX0 147 yX0_placeAfter, Cond.instanceMethod yX0_placeAfter, Cond.selects RX0 yX0_placeAfter yX0_placeAfter, Cond.code yX0_placeAfter cX0_placeAfter 2 (some .int), Cond.methodLink RL 204 yX1_around, Cond.instanceMethod yX1_around, Cond.selects RX1 yX1_around yX1_around, Cond.code yX1_around cX1_around 3 (some .int), Cond.methodLink RX1 110 yX1_behind, Cond.instanceMethod yX1_behind, Cond.selects RX1 yX1_behind yX1_behind, Cond.code yX1_behind cX1_behind 2 (some .int), Cond.methodLink RL 205 yX0_doubleArea, Cond.instanceMethod yX0_doubleArea]
def wsL_law0_r22 : List Cond := [Cond.selects RX0 yX0_doubleArea yX0_doubleArea, Cond.code yX0_doubleArea cX0_doubleArea 5 (some .int), Cond.methodLink RL 208 yX1_doubleArea, Cond.instanceMethod yX1_doubleArea, Cond.selects RX1 yX1_doubleArea yX1_doubleArea, Cond.code yX1_doubleArea cX1_doubleArea 3 (some .int), Cond.methodLink RL 209 yL_sideBits, Cond.static yL_sideBits, Cond.codeWith yL_sideBits cL_sideBits 3 (some .int) [(0, 7, 10, 23)], Cond.methodLink RL 100 yX0_sideBits, Cond.instanceMethod yX0_sideBits, Cond.selects RX0 yX0_sideBits yX0_sideBits, Cond.code yX0_sideBits cX0_sideBits 2 (some .long), Cond.methodLink RX0 154 Lib.Math.abs.name, Cond.static Lib.Math.abs.name, Cond.initialized "java/lang/Math", Cond.code Lib.Math.abs.name Lib.Math.abs.code 1 (some .int), Cond.methodLink RX0 150 yX0_doubleArea, Cond.methodLink RL 211 yX1_sideBits, Cond.instanceMethod yX1_sideBits, Cond.selects RX1 yX1_sideBits yX1_sideBits, Cond.code yX1_sideBits cX1_sideBits 2 (some .long), Cond.methodLink RX1 113 yX1_doubleArea, Cond.methodLink RL 212 yX0_checksum]
def wsL_law0_r23 : List Cond := [Cond.instanceMethod yX0_checksum, Cond.selects RX0 yX0_checksum yX0_checksum, Cond.code yX0_checksum cX0_checksum 4 (some .long), Cond.constantLong RX0 164 (7), Cond.constantLong RX0 166 (31), Cond.methodLink RX0 168 yX0_around, Cond.methodLink RL 215 yX1_checksum, Cond.instanceMethod yX1_checksum, Cond.selects RX1 yX1_checksum yX1_checksum, Cond.code yX1_checksum cX1_checksum 4 (some .long), Cond.constantLong RX1 116 (7), Cond.constantLong RX1 118 (31), Cond.methodLink RX1 120 yX1_around, Cond.methodLink RL 216 yX0_isSound, Cond.instanceMethod yX0_isSound, Cond.selects RX0 yX0_isSound yX0_isSound, Cond.code yX0_isSound cX0_isSound 1 (some .boolean), Cond.methodLink RX0 171 yX0_arePairsSound, Cond.instanceMethod yX0_arePairsSound, Cond.selects RX0 yX0_arePairsSound yX0_arePairsSound, Cond.code yX0_arePairsSound cX0_arePairsSound 3 (some .boolean), Cond.methodLink RX0 181 yX0_isSteady, Cond.methodLink RX0 185 yX0_isDoubled, Cond.methodLink RX0 188 yX0_isClose]
def wsL_law0_r24 : List Cond := [Cond.methodLink RX0 175 yX0_areThreesSound, Cond.instanceMethod yX0_areThreesSound, Cond.selects RX0 yX0_areThreesSound yX0_areThreesSound, Cond.code yX0_areThreesSound cX0_areThreesSound 3 (some .boolean), Cond.methodLink RX0 191 yX0_isStraightByAll, Cond.instanceMethod yX0_isStraightByAll, Cond.selects RX0 yX0_isStraightByAll yX0_isStraightByAll, Cond.code yX0_isStraightByAll cX0_isStraightByAll 4 (some .boolean), Cond.methodLink RX0 194 yX0_isStraight, Cond.methodLink RX0 178 yX0_isAreaSound, Cond.instanceMethod yX0_isAreaSound, Cond.selects RX0 yX0_isAreaSound yX0_isAreaSound, Cond.code yX0_isAreaSound cX0_isAreaSound 2 (some .boolean), Cond.methodLink RX0 198 yX0_isRootSound, Cond.instanceMethod yX0_isRootSound, Cond.selects RX0 yX0_isRootSound yX0_isRootSound, Cond.code yX0_isRootSound cX0_isRootSound 2 (some .boolean), Cond.methodLink RX0 205 yX0_isNearest, Cond.methodLink RX0 209 yX0_isHalved, Cond.methodLink RX0 201 yX0_root, Cond.methodLink RL 220 yX1_isSound, Cond.instanceMethod yX1_isSound, Cond.selects RX1 yX1_isSound yX1_isSound, Cond.code yX1_isSound cX1_isSound 5 (some .boolean)]
def wsL_law0 : List Cond := (wsL_law0_r1 ++ (wsL_law0_r2 ++ (wsL_law0_r3 ++ (wsL_law0_r4 ++ (wsL_law0_r5 ++ (wsL_law0_r6 ++ (wsL_law0_r7 ++ (wsL_law0_r8 ++ (wsL_law0_r9 ++ (wsL_law0_r10 ++ (wsL_law0_r11 ++ (wsL_law0_r12 ++ (wsL_law0_r13 ++ (wsL_law0_r14 ++ (wsL_law0_r15 ++ (wsL_law0_r16 ++ (wsL_law0_r17 ++ (wsL_law0_r18 ++ (wsL_law0_r19 ++ (wsL_law0_r20 ++ (wsL_law0_r21 ++ (wsL_law0_r22 ++ (wsL_law0_r23 ++ wsL_law0_r24))))))))))))))))))))))) ++ wsX00 ++ wsX10 ++ ([] : List Cond)
def wsL_law : List Cond := wsL_law0 ++ (vx_atS RX0 43 "java/lang/IllegalArgumentException" ["java/lang/RuntimeException", "java/lang/Exception"]).filter goodWord ++ (vx_atS RX0 146 "java/lang/IndexOutOfBoundsException" ["java/lang/RuntimeException", "java/lang/Exception"]).filter goodWord ++ (vx_atS RX0 63 "java/lang/IllegalStateException" ["java/lang/RuntimeException", "java/lang/Exception"]).filter goodWord ++ (pg_atX RX0 218 "java/util/NoSuchElementException" 13 prog_13_method_4_code "java/lang/RuntimeException" ["java/lang/Exception"]).filter goodWord
abbrev vwCl : List vw_C := [(RX0, TX0, 6), (RX1, TX1, 7)]
/-! printed names end here -/
end
section
theorem pg_places {big : List Cond} (ws : List Cond) (ps : List Nat) (hp : ws = ps.filterMap (fun i => big[i]?)) : ∀ w ∈ ws, w ∈ big := by
  intro w hw
  rw [hp] at hw
  obtain ⟨i, -, hi⟩ := List.mem_filterMap.mp hw
  exact List.mem_of_getElem? hi
set_option maxRecDepth 20000 in
theorem wsL_law0_r1_in : ∀ w ∈ wsL_law0_r1, w ∈ lw_tbl := pg_places wsL_law0_r1 [39, 40, 29, 525, 526, 30, 753, 754, 41, 42, 43, 44, 45, 46, 66, 47, 67, 48, 49, 50, 51, 52, 527, 528] (by decide +kernel)
set_option maxRecDepth 20000 in
theorem wsL_law0_r2_in : ∀ w ∈ wsL_law0_r2, w ∈ lw_tbl := pg_places wsL_law0_r2 [529, 530, 532, 533, 534, 535, 531, 337, 338, 28, 339, 340, 341, 342, 343, 344, 345, 307, 35, 147, 148, 149, 150, 34] (by decide +kernel)
set_option maxRecDepth 20000 in
theorem wsL_law0_r3_in : ∀ w ∈ wsL_law0_r3, w ∈ lw_tbl := pg_places wsL_law0_r3 [76, 77, 78, 346, 347, 348, 72, 74, 0, 75, 350, 352, 15, 353, 557, 558, 559, 560, 561, 563, 17, 564, 565, 566] (by decide +kernel)
set_option maxRecDepth 20000 in
theorem wsL_law0_r4_in : ∀ w ∈ wsL_law0_r4, w ∈ lw_tbl := pg_places wsL_law0_r4 [567, 568, 570, 18, 571, 553, 554, 555, 556, 354, 355, 356, 357, 358, 359, 360, 361, 362, 367, 37, 219, 221, 10, 222] (by decide +kernel)
set_option maxRecDepth 20000 in
theorem wsL_law0_r5_in : ∀ w ∈ wsL_law0_r5, w ∈ lw_tbl := pg_places wsL_law0_r5 [223, 36, 363, 365, 16, 366, 87, 89, 1, 90, 572, 573, 574, 575, 576, 578, 19, 579, 580, 582, 20, 583, 536, 383] (by decide +kernel)
set_option maxRecDepth 20000 in
theorem wsL_law0_r6_in : ∀ w ∈ wsL_law0_r6, w ∈ lw_tbl := pg_places wsL_law0_r6 [384, 385, 386, 387, 388, 389, 99, 101, 4, 102, 103, 105, 5, 106, 584, 585, 586, 587, 391, 392, 393, 394, 395, 396] (by decide +kernel)
set_option maxRecDepth 20000 in
theorem wsL_law0_r7_in : ∀ w ∈ wsL_law0_r7, w ∈ lw_tbl := pg_places wsL_law0_r7 [397, 588, 589, 590, 591, 398, 399, 400, 401, 402, 403, 404, 592, 593, 594, 595, 596, 598, 21, 599, 68, 69, 70, 71] (by decide +kernel)
set_option maxRecDepth 20000 in
theorem wsL_law0_r8_in : ∀ w ∈ wsL_law0_r8, w ∈ lw_tbl := pg_places wsL_law0_r8 [600, 601, 602, 603, 79, 80, 81, 82, 604, 605, 606, 607, 537, 405, 406, 407, 408, 409, 410, 411, 143, 145, 8, 146] (by decide +kernel)
set_option maxRecDepth 20000 in
theorem wsL_law0_r9_in : ∀ w ∈ wsL_law0_r9, w ∈ lw_tbl := pg_places wsL_law0_r9 [95, 97, 3, 98, 107, 108, 109, 110, 111, 112, 113, 114, 115, 608, 609, 610, 611, 612, 614, 22, 615, 616, 618, 23] (by decide +kernel)
set_option maxRecDepth 20000 in
theorem wsL_law0_r10_in : ∀ w ∈ wsL_law0_r10, w ∈ lw_tbl := pg_places wsL_law0_r10 [619, 620, 621, 622, 627, 623, 624, 625, 626, 412, 413, 414, 415, 140, 141, 142, 239, 240, 241, 242, 243, 244, 248, 245] (by decide +kernel)
set_option maxRecDepth 20000 in
theorem wsL_law0_r11_in : ∀ w ∈ wsL_law0_r11, w ∈ lw_tbl := pg_places wsL_law0_r11 [246, 247, 628, 629, 630, 631, 416, 417, 418, 419, 250, 251, 252, 253, 254, 255, 632, 633, 634, 635, 420, 421, 422, 423] (by decide +kernel)
set_option maxRecDepth 20000 in
theorem wsL_law0_r12_in : ∀ w ∈ wsL_law0_r12, w ∈ lw_tbl := pg_places wsL_law0_r12 [257, 258, 259, 260, 261, 262, 263, 264, 265, 266, 267, 268, 269, 270, 271, 272, 636, 637, 638, 639, 424, 425, 426, 427] (by decide +kernel)
set_option maxRecDepth 20000 in
theorem wsL_law0_r13_in : ∀ w ∈ wsL_law0_r13, w ∈ lw_tbl := pg_places wsL_law0_r13 [282, 283, 284, 640, 641, 642, 643, 644, 646, 24, 647, 428, 429, 430, 431, 432, 433, 434, 126, 128, 6, 129, 648, 649] (by decide +kernel)
set_option maxRecDepth 20000 in
theorem wsL_law0_r14_in : ∀ w ∈ wsL_law0_r14, w ∈ lw_tbl := pg_places wsL_law0_r14 [650, 651, 652, 653, 655, 25, 656, 436, 437, 438, 439, 440, 441, 442, 657, 658, 659, 660, 443, 444, 445, 446, 447, 448] (by decide +kernel)
set_option maxRecDepth 20000 in
theorem wsL_law0_r15_in : ∀ w ∈ wsL_law0_r15, w ∈ lw_tbl := pg_places wsL_law0_r15 [449, 304, 305, 306, 293, 294, 295, 323, 324, 325, 661, 662, 663, 664, 665, 667, 26, 668, 669, 670, 671, 450, 451, 452] (by decide +kernel)
set_option maxRecDepth 20000 in
theorem wsL_law0_r16_in : ∀ w ∈ wsL_law0_r16, w ∈ lw_tbl := pg_places wsL_law0_r16 [453, 331, 332, 333, 334, 335, 336, 672, 673, 674, 675, 679, 676, 677, 678, 454, 455, 456, 457, 458, 459, 460, 680, 681] (by decide +kernel)
set_option maxRecDepth 20000 in
theorem wsL_law0_r17_in : ∀ w ∈ wsL_law0_r17, w ∈ lw_tbl := pg_places wsL_law0_r17 [682, 683, 684, 685, 686, 687, 688, 689, 461, 462, 463, 464, 465, 466, 467, 690, 691, 692, 693, 468, 469, 470, 471, 472] (by decide +kernel)
set_option maxRecDepth 20000 in
theorem wsL_law0_r18_in : ∀ w ∈ wsL_law0_r18, w ∈ lw_tbl := pg_places wsL_law0_r18 [473, 474, 475, 476, 477, 694, 695, 696, 697, 698, 699, 700, 478, 479, 480, 481, 301, 302, 303, 701, 702, 703, 704, 482] (by decide +kernel)
set_option maxRecDepth 20000 in
theorem wsL_law0_r19_in : ∀ w ∈ wsL_law0_r19, w ∈ lw_tbl := pg_places wsL_law0_r19 [483, 484, 485, 327, 328, 329, 705, 706, 707, 708, 486, 487, 488, 489, 490, 491, 492, 709, 710, 711, 712, 493, 494, 495] (by decide +kernel)
set_option maxRecDepth 20000 in
theorem wsL_law0_r20_in : ∀ w ∈ wsL_law0_r20, w ∈ lw_tbl := pg_places wsL_law0_r20 [496, 497, 498, 499, 713, 714, 715, 716, 501, 502, 503, 504, 505, 506, 507, 717, 718, 719, 720, 509, 510, 511, 512, 513] (by decide +kernel)
set_option maxRecDepth 20000 in
theorem wsL_law0_r21_in : ∀ w ∈ wsL_law0_r21, w ∈ lw_tbl := pg_places wsL_law0_r21 [514, 515, 721, 722, 723, 724, 83, 84, 85, 86, 91, 93, 2, 94, 725, 726, 727, 728, 729, 731, 27, 732, 116, 117] (by decide +kernel)
set_option maxRecDepth 20000 in
theorem wsL_law0_r22_in : ∀ w ∈ wsL_law0_r22, w ∈ lw_tbl := pg_places wsL_law0_r22 [118, 119, 733, 734, 735, 736, 517, 518, 519, 520, 521, 522, 523, 290, 291, 38, 292, 289, 737, 738, 739, 740, 741, 120] (by decide +kernel)
set_option maxRecDepth 20000 in
theorem wsL_law0_r23_in : ∀ w ∈ wsL_law0_r23, w ∈ lw_tbl := pg_places wsL_law0_r23 [121, 122, 123, 124, 125, 130, 742, 743, 744, 745, 746, 747, 748, 131, 132, 133, 134, 135, 137, 7, 138, 139, 249, 256] (by decide +kernel)
set_option maxRecDepth 20000 in
theorem wsL_law0_r24_in : ∀ w ∈ wsL_law0_r24, w ∈ lw_tbl := pg_places wsL_law0_r24 [273, 275, 11, 276, 277, 279, 12, 280, 281, 285, 287, 13, 288, 296, 298, 14, 299, 300, 326, 330, 749, 750, 751, 752] (by decide +kernel)
theorem wsX00_tin : ∀ w ∈ wsX00, w ∈ lw_tbl := by decide +kernel
theorem wsX10_tin : ∀ w ∈ wsX10, w ∈ lw_tbl := by decide +kernel
theorem wsL_law_in0 : ∀ w ∈ wsL_law0, w ∈ lw_tbl := List.forall_mem_append.mpr ⟨List.forall_mem_append.mpr ⟨List.forall_mem_append.mpr ⟨(List.forall_mem_append.mpr ⟨wsL_law0_r1_in, (List.forall_mem_append.mpr ⟨wsL_law0_r2_in, (List.forall_mem_append.mpr ⟨wsL_law0_r3_in, (List.forall_mem_append.mpr ⟨wsL_law0_r4_in, (List.forall_mem_append.mpr ⟨wsL_law0_r5_in, (List.forall_mem_append.mpr ⟨wsL_law0_r6_in, (List.forall_mem_append.mpr ⟨wsL_law0_r7_in, (List.forall_mem_append.mpr ⟨wsL_law0_r8_in, (List.forall_mem_append.mpr ⟨wsL_law0_r9_in, (List.forall_mem_append.mpr ⟨wsL_law0_r10_in, (List.forall_mem_append.mpr ⟨wsL_law0_r11_in, (List.forall_mem_append.mpr ⟨wsL_law0_r12_in, (List.forall_mem_append.mpr ⟨wsL_law0_r13_in, (List.forall_mem_append.mpr ⟨wsL_law0_r14_in, (List.forall_mem_append.mpr ⟨wsL_law0_r15_in, (List.forall_mem_append.mpr ⟨wsL_law0_r16_in, (List.forall_mem_append.mpr ⟨wsL_law0_r17_in, (List.forall_mem_append.mpr ⟨wsL_law0_r18_in, (List.forall_mem_append.mpr ⟨wsL_law0_r19_in, (List.forall_mem_append.mpr ⟨wsL_law0_r20_in, (List.forall_mem_append.mpr ⟨wsL_law0_r21_in, (List.forall_mem_append.mpr ⟨wsL_law0_r22_in, (List.forall_mem_append.mpr ⟨wsL_law0_r23_in, wsL_law0_r24_in⟩)⟩)⟩)⟩)⟩)⟩)⟩)⟩)⟩)⟩)⟩)⟩)⟩)⟩)⟩)⟩)⟩)⟩)⟩)⟩)⟩)⟩)⟩), wsX00_tin⟩, wsX10_tin⟩, fun _ h => absurd h List.not_mem_nil⟩
end
section
theorem wsL_law_x0 : ∀ w ∈ (vx_atS RX0 43 "java/lang/IllegalArgumentException" ["java/lang/RuntimeException", "java/lang/Exception"]).filter goodWord, w ∈ lw_tbl := by decide +kernel
theorem wsL_law_x1 : ∀ w ∈ (vx_atS RX0 146 "java/lang/IndexOutOfBoundsException" ["java/lang/RuntimeException", "java/lang/Exception"]).filter goodWord, w ∈ lw_tbl := by decide +kernel
end
section
theorem wsL_law_x2 : ∀ w ∈ (vx_atS RX0 63 "java/lang/IllegalStateException" ["java/lang/RuntimeException", "java/lang/Exception"]).filter goodWord, w ∈ lw_tbl := by decide +kernel
theorem wsL_law_x3 : ∀ w ∈ (pg_atX RX0 218 "java/util/NoSuchElementException" 13 prog_13_method_4_code "java/lang/RuntimeException" ["java/lang/Exception"]).filter goodWord, w ∈ lw_tbl := by decide +kernel
end
section
theorem wsL_law_in : ∀ w ∈ wsL_law, w ∈ lw_tbl := fun w h => (List.mem_append.mp h).elim (fun h => (List.mem_append.mp h).elim (fun h => (List.mem_append.mp h).elim (fun h => (List.mem_append.mp h).elim (fun h => wsL_law_in0 w h) (fun h => wsL_law_x0 w h)) (fun h => wsL_law_x1 w h)) (fun h => wsL_law_x2 w h)) (fun h => wsL_law_x3 w h)
theorem inlX0 : ∀ w ∈ wsX00, w ∈ wsL_law := fun _ h => List.mem_append_left _ (List.mem_append_left _ (List.mem_append_left _ (List.mem_append_left _ (List.mem_append_left _ (List.mem_append_left _ (List.mem_append_right _ h))))))
theorem inX0 : ∀ w ∈ wsX00, w ∈ lw_tbl := fun w h => wsL_law_in w (inlX0 w h)
theorem inlX1 : ∀ w ∈ wsX10, w ∈ wsL_law := fun _ h => List.mem_append_left _ (List.mem_append_left _ (List.mem_append_left _ (List.mem_append_left _ (List.mem_append_left _ (List.mem_append_right _ h)))))
theorem inX1 : ∀ w ∈ wsX10, w ∈ lw_tbl := fun w h => wsL_law_in w (inlX1 w h)
theorem inJx145de : ∀ w ∈ wsJx145de0, w ∈ lw_tbl := by decide +kernel
theorem inJ9 : ∀ w ∈ wsJ90, w ∈ lw_tbl := by decide +kernel
theorem inJ0 : ∀ w ∈ wsJ00, w ∈ lw_tbl := by decide +kernel
end
section
set_option maxRecDepth 20000 in
theorem ggL_put_X0_put : GoodIn wsL_put wsX0_put := goodIn_ca (goodIn_ca (goodIn_r _ [7, 8, 9, 10, 11, 6, 12, 13, 14, 15, 16, 17, 18, 19, 20, 21, 22, 23, 24, 25, 26, 27, 28, 29, 30, 31, 32, 33, 34, 35, 36, 37] (by decide +kernel) (by decide +kernel)) (goodIn_sub (fun _ h => List.mem_cons_of_mem _ (List.mem_append_left _ (List.mem_append_right _ h))) (by decide +kernel))) (goodIn_sub (fun _ h => List.mem_cons_of_mem _ (List.mem_append_right _ h)) (by decide +kernel))
set_option maxRecDepth 20000 in
theorem gL_put_X0_put : GoodIn wsL_put (wsV RL 7 RX0 yX0_put wsX0_put) := goodIn_app (goodIn_of _ (by decide +kernel)) ggL_put_X0_put
set_option maxRecDepth 20000 in
theorem ggL_take_X0_take : GoodIn wsL_take wsX0_take := goodIn_ca (goodIn_ca (goodIn_ca (goodIn_r _ [8, 9, 10, 11, 12, 13, 7, 14, 15, 16, 17, 18, 19, 20, 21, 22, 23, 24, 25, 26, 27, 28, 29, 30, 31, 32, 33, 34, 35, 36, 37, 38, 39, 40, 41, 42, 43, 44, 45] (by decide +kernel) (by decide +kernel)) (goodIn_sub (fun _ h => List.mem_cons_of_mem _ (List.mem_append_left _ (List.mem_append_left _ (List.mem_append_right _ h)))) (by decide +kernel))) (goodIn_sub (fun _ h => List.mem_cons_of_mem _ (List.mem_append_left _ (List.mem_append_right _ h))) (by decide +kernel))) (goodIn_sub (fun _ h => List.mem_cons_of_mem _ (List.mem_append_right _ h)) (by decide +kernel))
set_option maxRecDepth 20000 in
theorem gL_take_X0_take : GoodIn wsL_take (wsV RL 17 RX0 yX0_take wsX0_take) := goodIn_app (goodIn_of _ (by decide +kernel)) ggL_take_X0_take
set_option maxRecDepth 20000 in
theorem ggL_step_X0_step : GoodIn wsL_step wsX0_step := goodIn_ca (goodIn_ca (goodIn_ca (goodIn_r _ [8, 9, 10, 11, 12, 7, 13, 14, 15, 16, 17, 18, 19, 20, 21, 22, 23, 24, 25, 26, 27, 28, 29, 30, 31, 32, 33, 34, 35, 36, 37, 38, 39, 40, 41, 42, 43, 44, 45, 46, 47, 48, 49, 50, 51, 52] (by decide +kernel) (by decide +kernel)) (goodIn_sub (fun _ h => List.mem_cons_of_mem _ (List.mem_append_left _ (List.mem_append_left _ (List.mem_append_right _ h)))) (by decide +kernel))) (goodIn_sub (fun _ h => List.mem_cons_of_mem _ (List.mem_append_left _ (List.mem_append_right _ h))) (by decide +kernel))) (goodIn_sub (fun _ h => List.mem_cons_of_mem _ (List.mem_append_right _ h)) (by decide +kernel))
set_option maxRecDepth 20000 in
theorem gL_step_X0_step : GoodIn wsL_step (wsV RL 25 RX0 yX0_step wsX0_step) := goodIn_app (goodIn_of _ (by decide +kernel)) ggL_step_X0_step
set_option maxRecDepth 20000 in
theorem ggL_isThere_X0_isThere : GoodIn wsL_isThere wsX0_isThere := goodIn_ca (goodIn_r _ [6, 7, 8, 5, 9, 10, 11, 12, 13, 14, 15, 16, 17, 18, 19, 20, 21, 22, 23, 24, 25] (by decide +kernel) (by decide +kernel)) (goodIn_sub (fun _ h => List.mem_cons_of_mem _ (List.mem_append_right _ h)) (by decide +kernel))
set_option maxRecDepth 20000 in
theorem gL_isThere_X0_isThere : GoodIn wsL_isThere (wsV RL 29 RX0 yX0_isThere wsX0_isThere) := goodIn_app (goodIn_of _ (by decide +kernel)) ggL_isThere_X0_isThere
set_option maxRecDepth 20000 in
theorem ggL_placeOf_X0_placeOf : GoodIn wsL_placeOf wsX0_placeOf := goodIn_ca (goodIn_ca (goodIn_r _ [7, 8, 9, 6, 10, 11, 12, 13, 14, 15, 16, 17, 18, 19, 20, 21, 22, 23, 24, 25, 26, 27, 28, 29, 30, 31, 32, 33, 34, 35, 36, 37, 38, 39, 40, 41, 42] (by decide +kernel) (by decide +kernel)) (goodIn_sub (fun _ h => List.mem_cons_of_mem _ (List.mem_append_left _ (List.mem_append_right _ h))) (by decide +kernel))) (goodIn_sub (fun _ h => List.mem_cons_of_mem _ (List.mem_append_right _ h)) (by decide +kernel))
set_option maxRecDepth 20000 in
theorem gL_placeOf_X0_placeOf : GoodIn wsL_placeOf (wsV RL 33 RX0 yX0_placeOf wsX0_placeOf) := goodIn_app (goodIn_of _ (by decide +kernel)) ggL_placeOf_X0_placeOf
set_option maxRecDepth 20000 in
theorem ggL_stretch_X0_stretch : GoodIn wsL_stretch wsX0_stretch := goodIn_ca (goodIn_ca (goodIn_r _ [7, 8, 9, 10, 6, 11, 12, 13, 14, 15, 16, 17, 18, 19, 20, 21, 22, 23, 24, 25, 26, 27, 28, 29, 30, 31, 32, 33, 34, 35, 36, 37, 38, 39, 40, 41, 42, 43, 44, 45, 46, 47, 48, 49, 50, 51, 52, 53, 54, 55, 56, 57, 58, 59, 60] (by decide +kernel) (by decide +kernel)) (goodIn_sub (fun _ h => List.mem_cons_of_mem _ (List.mem_append_left _ (List.mem_append_right _ h))) (by decide +kernel))) (goodIn_sub (fun _ h => List.mem_cons_of_mem _ (List.mem_append_right _ h)) (by decide +kernel))
set_option maxRecDepth 20000 in
theorem gL_stretch_X0_stretch : GoodIn wsL_stretch (wsV RL 37 RX0 yX0_stretch wsX0_stretch) := goodIn_app (goodIn_of _ (by decide +kernel)) ggL_stretch_X0_stretch
set_option maxRecDepth 20000 in
theorem ggL_isSteady_X0_isSteady : GoodIn wsL_isSteady wsX0_isSteady := goodIn_ca (goodIn_ca (goodIn_r _ [7, 8, 9, 10, 11, 6, 12, 13, 14, 15, 16, 17, 18, 19, 20, 21, 22, 23, 24, 25, 26, 27, 28, 29, 30, 31, 32, 33, 34, 35, 36, 37, 38, 39, 40, 41, 42, 43, 44, 45, 46, 47, 48, 49, 50, 51, 52, 53, 54, 55, 56, 57, 58, 59, 60, 61, 62, 63] (by decide +kernel) (by decide +kernel)) (goodIn_sub (fun _ h => List.mem_cons_of_mem _ (List.mem_append_left _ (List.mem_append_right _ h))) (by decide +kernel))) (goodIn_sub (fun _ h => List.mem_cons_of_mem _ (List.mem_append_right _ h)) (by decide +kernel))
set_option maxRecDepth 20000 in
theorem gL_isSteady_X0_isSteady : GoodIn wsL_isSteady (wsV RL 41 RX0 yX0_isSteady wsX0_isSteady) := goodIn_app (goodIn_of _ (by decide +kernel)) ggL_isSteady_X0_isSteady
set_option maxRecDepth 20000 in
theorem ggL_isDoubled_X0_isDoubled : GoodIn wsL_isDoubled wsX0_isDoubled := goodIn_ca (goodIn_ca (goodIn_r _ [7, 8, 9, 10, 6, 11, 12, 13, 14, 15, 16, 17, 18, 19, 20, 21, 22, 23, 24, 25, 26, 27, 28, 29, 30, 31, 32, 33, 34, 35, 36, 37, 38, 39, 40, 41, 42, 43, 44, 45, 46, 47, 48, 49, 50, 51, 52, 53, 54, 55, 56, 57, 58, 59, 60, 61, 62, 63, 64, 65] (by decide +kernel) (by decide +kernel)) (goodIn_sub (fun _ h => List.mem_cons_of_mem _ (List.mem_append_left _ (List.mem_append_right _ h))) (by decide +kernel))) (goodIn_sub (fun _ h => List.mem_cons_of_mem _ (List.mem_append_right _ h)) (by decide +kernel))
set_option maxRecDepth 20000 in
theorem gL_isDoubled_X0_isDoubled : GoodIn wsL_isDoubled (wsV RL 45 RX0 yX0_isDoubled wsX0_isDoubled) := goodIn_app (goodIn_of _ (by decide +kernel)) ggL_isDoubled_X0_isDoubled
set_option maxRecDepth 20000 in
theorem ggL_isClose_X0_isClose : GoodIn wsL_isClose wsX0_isClose := goodIn_ca (goodIn_ca (goodIn_r _ [7, 8, 9, 10, 11, 6, 12, 13, 14, 15, 16, 17, 18, 19, 20, 21, 22, 23, 24, 25, 26, 27, 28, 29, 30, 31, 32, 33, 34, 35, 36, 37, 38, 39, 40, 41, 42, 43, 44, 45, 46, 47, 48, 49, 50, 51, 52, 53, 54, 55, 56, 57, 58, 59, 60, 61, 62, 63, 64, 65, 66, 67, 68, 69, 70, 71, 72, 73, 74, 75, 76] (by decide +kernel) (by decide +kernel)) (goodIn_sub (fun _ h => List.mem_cons_of_mem _ (List.mem_append_left _ (List.mem_append_right _ h))) (by decide +kernel))) (goodIn_sub (fun _ h => List.mem_cons_of_mem _ (List.mem_append_right _ h)) (by decide +kernel))
set_option maxRecDepth 20000 in
theorem gL_isClose_X0_isClose : GoodIn wsL_isClose (wsV RL 48 RX0 yX0_isClose wsX0_isClose) := goodIn_app (goodIn_of _ (by decide +kernel)) ggL_isClose_X0_isClose
set_option maxRecDepth 20000 in
theorem ggL_isStraight_X0_isStraight : GoodIn wsL_isStraight wsX0_isStraight := goodIn_ca (goodIn_ca (goodIn_r _ [7, 8, 9, 6, 10, 11, 12, 13, 14, 15, 16, 17, 18, 19, 20, 21, 22, 23, 24, 25, 26, 27, 28, 29, 30, 31, 32, 33, 34, 35, 36, 37, 38, 39, 40, 41, 42, 43, 44, 45, 46, 47, 48, 49, 50, 51, 52, 53, 54, 55, 56] (by decide +kernel) (by decide +kernel)) (goodIn_sub (fun _ h => List.mem_cons_of_mem _ (List.mem_append_left _ (List.mem_append_right _ h))) (by decide +kernel))) (goodIn_sub (fun _ h => List.mem_cons_of_mem _ (List.mem_append_right _ h)) (by decide +kernel))
set_option maxRecDepth 20000 in
theorem gL_isStraight_X0_isStraight : GoodIn wsL_isStraight (wsV RL 51 RX0 yX0_isStraight wsX0_isStraight) := goodIn_app (goodIn_of _ (by decide +kernel)) ggL_isStraight_X0_isStraight
set_option maxRecDepth 20000 in
theorem ggL_nearest_X0_nearest : GoodIn wsL_nearest wsX0_nearest := goodIn_ca (goodIn_ca (goodIn_ca (goodIn_r _ [8, 9, 10, 11, 12, 7, 13, 14, 15, 16, 17, 18, 19, 20, 21, 22, 23, 24, 25, 26, 27, 28, 29, 30, 31, 32, 33, 34, 35, 36, 37, 38, 39, 40, 41, 42, 43, 44, 45, 46, 47, 48, 49, 50, 51, 52, 53, 54, 55, 56, 57, 58, 59, 60, 61, 62, 63] (by decide +kernel) (by decide +kernel)) (goodIn_sub (fun _ h => List.mem_cons_of_mem _ (List.mem_append_left _ (List.mem_append_left _ (List.mem_append_right _ h)))) (by decide +kernel))) (goodIn_sub (fun _ h => List.mem_cons_of_mem _ (List.mem_append_left _ (List.mem_append_right _ h))) (by decide +kernel))) (goodIn_sub (fun _ h => List.mem_cons_of_mem _ (List.mem_append_right _ h)) (by decide +kernel))
set_option maxRecDepth 20000 in
theorem gL_nearest_X0_nearest : GoodIn wsL_nearest (wsV RL 54 RX0 yX0_nearest wsX0_nearest) := goodIn_app (goodIn_of _ (by decide +kernel)) ggL_nearest_X0_nearest
set_option maxRecDepth 20000 in
theorem ggL_rank_X0_rank : GoodIn wsL_rank wsX0_rank := goodIn_ca (goodIn_ca (goodIn_r _ [7, 8, 9, 10, 6, 11, 12, 13, 14, 15, 16, 17, 18, 19, 20, 21, 22, 23, 24, 25, 26, 27, 28, 29, 30, 31, 32, 33, 34, 35, 36, 37, 38, 39, 40, 41, 42, 43, 44, 45, 46, 47, 48, 49, 50, 51, 52, 53, 54, 55, 56, 57, 58, 59, 60] (by decide +kernel) (by decide +kernel)) (goodIn_sub (fun _ h => List.mem_cons_of_mem _ (List.mem_append_left _ (List.mem_append_right _ h))) (by decide +kernel))) (goodIn_sub (fun _ h => List.mem_cons_of_mem _ (List.mem_append_right _ h)) (by decide +kernel))
set_option maxRecDepth 20000 in
theorem gL_rank_X0_rank : GoodIn wsL_rank (wsV RL 57 RX0 yX0_rank wsX0_rank) := goodIn_app (goodIn_of _ (by decide +kernel)) ggL_rank_X0_rank
set_option maxRecDepth 20000 in
theorem ggL_isIn_X0_isIn : GoodIn wsL_isIn wsX0_isIn := goodIn_ca (goodIn_ca (goodIn_ca (goodIn_r _ [8, 9, 10, 11, 7, 12, 13, 14, 15, 16, 17, 18, 19, 20, 21, 22, 23, 24, 25, 26, 27, 28, 29, 30, 31, 32, 33, 34, 35, 36, 37, 38, 39, 40, 41, 42, 43, 44, 45, 46, 47, 48, 49, 50, 51, 52, 53, 54, 55, 56, 57, 58, 59, 60, 61, 62, 63, 64, 65, 66, 67, 68, 69, 70, 71, 72] (by decide +kernel) (by decide +kernel)) (goodIn_sub (fun _ h => List.mem_cons_of_mem _ (List.mem_append_left _ (List.mem_append_left _ (List.mem_append_right _ h)))) (by decide +kernel))) (goodIn_sub (fun _ h => List.mem_cons_of_mem _ (List.mem_append_left _ (List.mem_append_right _ h))) (by decide +kernel))) (goodIn_sub (fun _ h => List.mem_cons_of_mem _ (List.mem_append_right _ h)) (by decide +kernel))
set_option maxRecDepth 20000 in
theorem gL_isIn_X0_isIn : GoodIn wsL_isIn (wsV RL 60 RX0 yX0_isIn wsX0_isIn) := goodIn_app (goodIn_of _ (by decide +kernel)) ggL_isIn_X0_isIn
set_option maxRecDepth 20000 in
theorem ggL_root_X0_root : GoodIn wsL_root wsX0_root := goodIn_ca (goodIn_r _ [6, 7, 8, 5, 9, 10, 11, 12, 13, 14, 15, 16, 17, 18, 19, 20, 21, 22, 23, 24, 25, 26, 27, 28, 29, 30, 31, 32, 33, 34, 35, 36, 37] (by decide +kernel) (by decide +kernel)) (goodIn_sub (fun _ h => List.mem_cons_of_mem _ (List.mem_append_right _ h)) (by decide +kernel))
set_option maxRecDepth 20000 in
theorem gL_root_X0_root : GoodIn wsL_root (wsV RL 64 RX0 yX0_root wsX0_root) := goodIn_app (goodIn_of _ (by decide +kernel)) ggL_root_X0_root
set_option maxRecDepth 20000 in
theorem ggL_rootBits_X0_rootBits : GoodIn wsL_rootBits wsX0_rootBits := goodIn_ca (goodIn_r _ [6, 7, 8, 5, 9, 10, 11, 12, 13, 14, 15, 16, 17, 18, 19, 20, 21, 22, 23, 24, 25, 26, 27] (by decide +kernel) (by decide +kernel)) (goodIn_sub (fun _ h => List.mem_cons_of_mem _ (List.mem_append_right _ h)) (by decide +kernel))
set_option maxRecDepth 20000 in
theorem gL_rootBits_X0_rootBits : GoodIn wsL_rootBits (wsV RL 68 RX0 yX0_rootBits wsX0_rootBits) := goodIn_app (goodIn_of _ (by decide +kernel)) ggL_rootBits_X0_rootBits
set_option maxRecDepth 20000 in
theorem ggL_rootGrains_X0_rootGrains : GoodIn wsL_rootGrains wsX0_rootGrains := goodIn_ca (goodIn_r _ [6, 7, 8, 5, 9, 10, 11, 12, 13, 14, 15, 16, 17, 18, 19, 20, 21, 22, 23] (by decide +kernel) (by decide +kernel)) (goodIn_sub (fun _ h => List.mem_cons_of_mem _ (List.mem_append_right _ h)) (by decide +kernel))
set_option maxRecDepth 20000 in
theorem gL_rootGrains_X0_rootGrains : GoodIn wsL_rootGrains (wsV RL 72 RX0 yX0_rootGrains wsX0_rootGrains) := goodIn_app (goodIn_of _ (by decide +kernel)) ggL_rootGrains_X0_rootGrains
set_option maxRecDepth 20000 in
theorem ggL_wholeRoot_X0_wholeRoot : GoodIn wsL_wholeRoot wsX0_wholeRoot := goodIn_ca (goodIn_r _ [6, 7, 8, 5, 9, 10, 11, 12, 13, 14, 15, 16, 17, 18, 19, 20] (by decide +kernel) (by decide +kernel)) (goodIn_sub (fun _ h => List.mem_cons_of_mem _ (List.mem_append_right _ h)) (by decide +kernel))
set_option maxRecDepth 20000 in
theorem gL_wholeRoot_X0_wholeRoot : GoodIn wsL_wholeRoot (wsV RL 76 RX0 yX0_wholeRoot wsX0_wholeRoot) := goodIn_app (goodIn_of _ (by decide +kernel)) ggL_wholeRoot_X0_wholeRoot
set_option maxRecDepth 20000 in
theorem ggL_isNearest_X0_isNearest : GoodIn wsL_isNearest wsX0_isNearest := goodIn_ca (goodIn_r _ [6, 7, 8, 9, 5, 10, 11, 12, 13, 14, 15, 16, 17, 18, 19, 20, 21, 22, 23, 24, 25, 26, 27, 28, 29, 30, 31, 32, 33, 34, 35, 36, 37, 38, 39, 40] (by decide +kernel) (by decide +kernel)) (goodIn_sub (fun _ h => List.mem_cons_of_mem _ (List.mem_append_right _ h)) (by decide +kernel))
set_option maxRecDepth 20000 in
theorem gL_isNearest_X0_isNearest : GoodIn wsL_isNearest (wsV RL 79 RX0 yX0_isNearest wsX0_isNearest) := goodIn_app (goodIn_of _ (by decide +kernel)) ggL_isNearest_X0_isNearest
set_option maxRecDepth 20000 in
theorem ggL_isHalved_X0_isHalved : GoodIn wsL_isHalved wsX0_isHalved := goodIn_ca (goodIn_r _ [6, 7, 8, 5, 9, 10, 11, 12, 13, 14, 15, 16, 17, 18, 19, 20, 21, 22, 23, 24, 25, 26, 27, 28, 29, 30] (by decide +kernel) (by decide +kernel)) (goodIn_sub (fun _ h => List.mem_cons_of_mem _ (List.mem_append_right _ h)) (by decide +kernel))
set_option maxRecDepth 20000 in
theorem gL_isHalved_X0_isHalved : GoodIn wsL_isHalved (wsV RL 83 RX0 yX0_isHalved wsX0_isHalved) := goodIn_app (goodIn_of _ (by decide +kernel)) ggL_isHalved_X0_isHalved
set_option maxRecDepth 20000 in
theorem ggL_between_X0_between : GoodIn wsL_between wsX0_between := goodIn_ca (goodIn_r _ [6, 7, 8, 5, 9, 10, 11, 12, 13, 14, 15, 16, 17, 18, 19, 20] (by decide +kernel) (by decide +kernel)) (goodIn_sub (fun _ h => List.mem_cons_of_mem _ (List.mem_append_right _ h)) (by decide +kernel))
set_option maxRecDepth 20000 in
theorem gL_between_X0_between : GoodIn wsL_between (wsV RL 86 RX0 yX0_between wsX0_between) := goodIn_app (goodIn_of _ (by decide +kernel)) ggL_between_X0_between
set_option maxRecDepth 20000 in
theorem ggL_join_X0_join : GoodIn wsL_join wsX0_join := goodIn_ca (goodIn_ca (goodIn_ca (goodIn_r _ [8, 9, 10, 11, 12, 13, 14, 7, 15, 16, 17, 18, 19, 20, 21, 22, 23, 24, 25, 26, 27, 28, 29, 30, 31, 32, 33, 34, 35, 36, 37] (by decide +kernel) (by decide +kernel)) (goodIn_sub (fun _ h => List.mem_cons_of_mem _ (List.mem_append_left _ (List.mem_append_left _ (List.mem_append_right _ h)))) (by decide +kernel))) (goodIn_sub (fun _ h => List.mem_cons_of_mem _ (List.mem_append_left _ (List.mem_append_right _ h))) (by decide +kernel))) (goodIn_sub (fun _ h => List.mem_cons_of_mem _ (List.mem_append_right _ h)) (by decide +kernel))
set_option maxRecDepth 20000 in
theorem gL_join_X0_join : GoodIn wsL_join (wsV RL 90 RX0 yX0_join wsX0_join) := goodIn_app (goodIn_of _ (by decide +kernel)) ggL_join_X0_join
set_option maxRecDepth 20000 in
theorem ggL_unjoin_X0_unjoin : GoodIn wsL_unjoin wsX0_unjoin := goodIn_ca (goodIn_r _ [6, 7, 8, 9, 10, 11, 12, 5, 13, 14, 15, 16, 17, 18, 19, 20] (by decide +kernel) (by decide +kernel)) (goodIn_sub (fun _ h => List.mem_cons_of_mem _ (List.mem_append_right _ h)) (by decide +kernel))
set_option maxRecDepth 20000 in
theorem gL_unjoin_X0_unjoin : GoodIn wsL_unjoin (wsV RL 93 RX0 yX0_unjoin wsX0_unjoin) := goodIn_app (goodIn_of _ (by decide +kernel)) ggL_unjoin_X0_unjoin
set_option maxRecDepth 20000 in
theorem ggL_ringAt_X0_ringAt : GoodIn wsL_ringAt wsX0_ringAt := goodIn_ca (goodIn_r _ [6, 7, 8, 9, 10, 11, 12, 5, 13, 14, 15, 16, 17, 18, 19, 20] (by decide +kernel) (by decide +kernel)) (goodIn_sub (fun _ h => List.mem_cons_of_mem _ (List.mem_append_right _ h)) (by decide +kernel))
set_option maxRecDepth 20000 in
theorem gL_ringAt_X0_ringAt : GoodIn wsL_ringAt (wsV RL 97 RX0 yX0_ringAt wsX0_ringAt) := goodIn_app (goodIn_of _ (by decide +kernel)) ggL_ringAt_X0_ringAt
set_option maxRecDepth 20000 in
theorem ggL_sideBits_X0_sideBits : GoodIn wsL_sideBits wsX0_sideBits := goodIn_ca (goodIn_r _ [6, 7, 8, 9, 10, 11, 12, 13, 14, 15, 5, 16, 17, 18, 19, 20, 21, 22, 23, 24, 25, 26, 27, 28, 29, 30, 31, 32, 33, 34, 35, 36, 37, 38, 39, 40, 41, 42, 43, 44, 45, 46, 47, 48, 49, 50, 51, 52, 53, 54, 55, 56, 57, 58, 59, 60, 61] (by decide +kernel) (by decide +kernel)) (goodIn_sub (fun _ h => List.mem_cons_of_mem _ (List.mem_append_right _ h)) (by decide +kernel))
set_option maxRecDepth 20000 in
theorem gL_sideBits_X0_sideBits : GoodIn wsL_sideBits (wsV RL 100 RX0 yX0_sideBits wsX0_sideBits) := goodIn_app (goodIn_of _ (by decide +kernel)) ggL_sideBits_X0_sideBits
set_option maxRecDepth 20000 in
theorem ggL_law_X0_init : GoodIn wsL_law wsX0_init := goodIn_r _ [10, 11, 12, 13, 14, 15, 16, 17, 18, 19, 20, 21, 576, 577, 578, 579, 580, 581] (by decide +kernel) (by decide +kernel)
set_option maxRecDepth 20000 in
theorem gL_law_X0_init : GoodIn wsL_law (wsX0_init) := ggL_law_X0_init
set_option maxRecDepth 20000 in
theorem ggL_law_X1_init : GoodIn wsL_law wsX1_init := goodIn_r _ [24, 25, 12, 13, 14, 26, 16, 27, 28, 29, 30, 582, 583, 584, 585, 586, 587, 588] (by decide +kernel) (by decide +kernel)
set_option maxRecDepth 20000 in
theorem gL_law_X1_init : GoodIn wsL_law (wsX1_init) := ggL_law_X1_init
set_option maxRecDepth 20000 in
theorem ggL_law_L_put : GoodIn wsL_law wsL_put := goodIn_ca (goodIn_ca (goodIn_r _ [34, 35, 36, 37, 38, 39, 2, 40, 41, 42, 43, 44, 45, 46, 47, 48, 49, 50, 51, 52, 53, 54, 55, 56, 57, 15, 58, 59, 60, 61, 17, 18, 576, 577, 578, 579, 580, 581] (by decide +kernel) (by decide +kernel)) (goodIn_sub (fun _ h => List.mem_append_left _ (List.mem_append_left _ (List.mem_append_left _ (List.mem_append_right _ h)))) (by decide +kernel))) (goodIn_sub (fun _ h => List.mem_append_left _ (List.mem_append_left _ (List.mem_append_right _ h))) (by decide +kernel))
set_option maxRecDepth 20000 in
theorem gL_law_L_put : GoodIn wsL_law (va_wsS RL 108 yL_put wsL_put) := goodIn_app (goodIn_of _ (by decide +kernel)) ggL_law_L_put
set_option maxRecDepth 20000 in
theorem ggL_law_X1_put : GoodIn wsL_law wsX1_put := goodIn_r _ [65, 26, 27, 28, 66, 67, 68, 5, 69, 70, 71, 72, 73, 74, 75, 76, 30, 582, 583, 584, 585, 586, 587, 588] (by decide +kernel) (by decide +kernel)
set_option maxRecDepth 20000 in
theorem gL_law_X1_put : GoodIn wsL_law (wsV RL 113 RX1 yX1_put wsX1_put) := goodIn_app (goodIn_of _ (by decide +kernel)) ggL_law_X1_put
set_option maxRecDepth 20000 in
theorem ggL_law_X1_thrown : GoodIn wsL_law wsX1_thrown := goodIn_r _ [80, 30, 582, 583, 584, 585, 586, 587, 588] (by decide +kernel) (by decide +kernel)
set_option maxRecDepth 20000 in
theorem gL_law_X1_thrown : GoodIn wsL_law (wsV RL 114 RX1 yX1_thrown wsX1_thrown) := goodIn_app (goodIn_of _ (by decide +kernel)) ggL_law_X1_thrown
set_option maxRecDepth 20000 in
theorem ggL_law_L_take : GoodIn wsL_law wsL_take := goodIn_ca (goodIn_ca (goodIn_ca (goodIn_r _ [83, 35, 84, 85, 86, 87, 88, 2, 89, 90, 91, 15, 43, 44, 45, 46, 47, 48, 49, 50, 92, 93, 94, 95, 96, 97, 54, 55, 56, 57, 98, 99, 100, 101, 20, 102, 103, 104, 105, 19, 576, 577, 578, 579, 580, 581] (by decide +kernel) (by decide +kernel)) (goodIn_sub (fun _ h => List.mem_append_left _ (List.mem_append_right _ h)) (by decide +kernel))) (goodIn_sub (fun _ h => List.mem_append_left _ (List.mem_append_left _ (List.mem_append_right _ h))) (by decide +kernel))) (goodIn_sub (fun _ h => List.mem_append_right _ h) (by decide +kernel))
set_option maxRecDepth 20000 in
theorem gL_law_L_take : GoodIn wsL_law (va_wsS RL 117 yL_take wsL_take) := goodIn_app (goodIn_of _ (by decide +kernel)) ggL_law_L_take
set_option maxRecDepth 20000 in
theorem ggL_law_X1_take : GoodIn wsL_law wsX1_take := goodIn_r _ [109, 26, 110, 111, 112, 5, 113, 66, 67, 68, 69, 70, 71, 72, 73, 74, 75, 76, 30, 114, 115, 116, 117, 118, 29, 582, 583, 584, 585, 586, 587, 588] (by decide +kernel) (by decide +kernel)
set_option maxRecDepth 20000 in
theorem gL_law_X1_take : GoodIn wsL_law (wsV RL 120 RX1 yX1_take wsX1_take) := goodIn_app (goodIn_of _ (by decide +kernel)) ggL_law_X1_take
set_option maxRecDepth 20000 in
theorem ggL_law_L_step : GoodIn wsL_law wsL_step := goodIn_ca (goodIn_ca (goodIn_ca (goodIn_r _ [121, 35, 84, 36, 122, 123, 124, 2, 125, 41, 42, 43, 44, 45, 46, 47, 48, 49, 50, 92, 93, 94, 95, 96, 97, 54, 55, 56, 57, 15, 126, 127, 128, 129, 17, 130, 131, 132, 133, 18, 51, 52, 53, 58, 59, 60, 61, 576, 577, 578, 579, 580, 581] (by decide +kernel) (by decide +kernel)) (goodIn_sub (fun _ h => List.mem_append_left _ (List.mem_append_left _ (List.mem_append_left _ (List.mem_append_right _ h)))) (by decide +kernel))) (goodIn_sub (fun _ h => List.mem_append_left _ (List.mem_append_left _ (List.mem_append_right _ h))) (by decide +kernel))) (goodIn_sub (fun _ h => List.mem_append_right _ h) (by decide +kernel))
set_option maxRecDepth 20000 in
theorem gL_law_L_step : GoodIn wsL_law (va_wsS RL 121 yL_step wsL_step) := goodIn_app (goodIn_of _ (by decide +kernel)) ggL_law_L_step
set_option maxRecDepth 20000 in
theorem ggL_law_X1_step : GoodIn wsL_law wsX1_step := goodIn_r _ [137, 27, 28, 110, 111, 112, 5, 113, 26, 66, 67, 68, 69, 70, 71, 72, 73, 74, 75, 76, 30, 582, 583, 584, 585, 586, 587, 588] (by decide +kernel) (by decide +kernel)
set_option maxRecDepth 20000 in
theorem gL_law_X1_step : GoodIn wsL_law (wsV RL 124 RX1 yX1_step wsX1_step) := goodIn_app (goodIn_of _ (by decide +kernel)) ggL_law_X1_step
set_option maxRecDepth 20000 in
theorem ggL_law_L_isThere : GoodIn wsL_law wsL_isThere := goodIn_ca (goodIn_r _ [140, 35, 141, 142, 143, 2, 144, 43, 44, 45, 46, 47, 48, 49, 50, 54, 55, 56, 57, 15, 576, 577, 578, 579, 580, 581] (by decide +kernel) (by decide +kernel)) (goodIn_sub (fun _ h => List.mem_append_left _ (List.mem_append_left _ (List.mem_append_right _ h))) (by decide +kernel))
set_option maxRecDepth 20000 in
theorem gL_law_L_isThere : GoodIn wsL_law (va_wsS RL 125 yL_isThere wsL_isThere) := goodIn_app (goodIn_of _ (by decide +kernel)) ggL_law_L_isThere
set_option maxRecDepth 20000 in
theorem ggL_law_X1_isThere : GoodIn wsL_law wsX1_isThere := goodIn_r _ [148, 26, 66, 67, 68, 5, 69, 70, 71, 72, 73, 74, 75, 76, 30, 582, 583, 584, 585, 586, 587, 588] (by decide +kernel) (by decide +kernel)
set_option maxRecDepth 20000 in
theorem gL_law_X1_isThere : GoodIn wsL_law (wsV RL 128 RX1 yX1_isThere wsX1_isThere) := goodIn_app (goodIn_of _ (by decide +kernel)) ggL_law_X1_isThere
set_option maxRecDepth 20000 in
theorem ggL_law_L_placeOf : GoodIn wsL_law wsL_placeOf := goodIn_ca (goodIn_ca (goodIn_r _ [151, 35, 84, 152, 153, 154, 2, 155, 43, 44, 45, 46, 47, 48, 49, 50, 92, 93, 94, 95, 96, 97, 54, 55, 56, 57, 15, 130, 131, 132, 133, 18, 126, 127, 128, 129, 17, 576, 577, 578, 579, 580, 581] (by decide +kernel) (by decide +kernel)) (goodIn_sub (fun _ h => List.mem_append_left _ (List.mem_append_left _ (List.mem_append_right _ h))) (by decide +kernel))) (goodIn_sub (fun _ h => List.mem_append_right _ h) (by decide +kernel))
set_option maxRecDepth 20000 in
theorem gL_law_L_placeOf : GoodIn wsL_law (va_wsS RL 129 yL_placeOf wsL_placeOf) := goodIn_app (goodIn_of _ (by decide +kernel)) ggL_law_L_placeOf
set_option maxRecDepth 20000 in
theorem ggL_law_X1_placeOf : GoodIn wsL_law wsX1_placeOf := goodIn_r _ [159, 110, 111, 112, 5, 113, 26, 66, 67, 68, 69, 70, 71, 72, 73, 74, 75, 76, 30, 160, 161, 162, 163, 28, 27, 582, 583, 584, 585, 586, 587, 588] (by decide +kernel) (by decide +kernel)
set_option maxRecDepth 20000 in
theorem gL_law_X1_placeOf : GoodIn wsL_law (wsV RL 131 RX1 yX1_placeOf wsX1_placeOf) := goodIn_app (goodIn_of _ (by decide +kernel)) ggL_law_X1_placeOf
set_option maxRecDepth 20000 in
theorem ggL_law_X0_count : GoodIn wsL_law wsX0_count := goodIn_r _ [167, 54, 55, 56, 2, 57, 15, 48, 49, 50, 576, 577, 578, 579, 580, 581] (by decide +kernel) (by decide +kernel)
set_option maxRecDepth 20000 in
theorem gL_law_X0_count : GoodIn wsL_law (wsV RL 132 RX0 yX0_count wsX0_count) := goodIn_app (goodIn_of _ (by decide +kernel)) ggL_law_X0_count
set_option maxRecDepth 20000 in
theorem ggL_law_X1_count : GoodIn wsL_law wsX1_count := goodIn_r _ [171, 26, 582, 583, 584, 585, 586, 587, 588] (by decide +kernel) (by decide +kernel)
set_option maxRecDepth 20000 in
theorem gL_law_X1_count : GoodIn wsL_law (wsV RL 135 RX1 yX1_count wsX1_count) := goodIn_app (goodIn_of _ (by decide +kernel)) ggL_law_X1_count
set_option maxRecDepth 20000 in
theorem ggL_law_X0_widen : GoodIn wsL_law wsX0_widen := goodIn_r _ [175, 21, 576, 577, 578, 579, 580, 581] (by decide +kernel) (by decide +kernel)
set_option maxRecDepth 20000 in
theorem gL_law_X0_widen : GoodIn wsL_law (wsV RL 136 RX0 yX0_widen wsX0_widen) := goodIn_app (goodIn_of _ (by decide +kernel)) ggL_law_X0_widen
set_option maxRecDepth 20000 in
theorem ggL_law_X1_widen : GoodIn wsL_law wsX1_widen := goodIn_r _ [179, 180, 582, 583, 584, 585, 586, 587, 588] (by decide +kernel) (by decide +kernel)
set_option maxRecDepth 20000 in
theorem gL_law_X1_widen : GoodIn wsL_law (wsV RL 140 RX1 yX1_widen wsX1_widen) := goodIn_app (goodIn_of _ (by decide +kernel)) ggL_law_X1_widen
set_option maxRecDepth 20000 in
theorem ggL_law_L_stretch : GoodIn wsL_law wsL_stretch := goodIn_ca (goodIn_ca (goodIn_r _ [183, 35, 84, 184, 185, 186, 2, 187, 188, 189, 190, 191, 43, 44, 45, 46, 47, 48, 49, 50, 92, 93, 94, 95, 96, 97, 54, 55, 56, 57, 15, 192, 193, 194, 195, 21, 126, 127, 128, 129, 17, 130, 131, 132, 133, 18, 196, 197, 198, 199, 200, 201, 202, 203, 204, 576, 577, 578, 579, 580, 581] (by decide +kernel) (by decide +kernel)) (goodIn_sub (fun _ h => List.mem_append_left _ (List.mem_append_left _ (List.mem_append_right _ h))) (by decide +kernel))) (goodIn_sub (fun _ h => List.mem_append_right _ h) (by decide +kernel))
set_option maxRecDepth 20000 in
theorem gL_law_L_stretch : GoodIn wsL_law (va_wsS RL 141 yL_stretch wsL_stretch) := goodIn_app (goodIn_of _ (by decide +kernel)) ggL_law_L_stretch
set_option maxRecDepth 20000 in
theorem ggL_law_X1_stretch : GoodIn wsL_law wsX1_stretch := goodIn_r _ [208, 209, 210, 211, 5, 212, 26, 66, 67, 68, 69, 70, 71, 72, 73, 74, 75, 76, 30, 213, 214, 215, 216, 27, 28, 180, 217, 218, 219, 220, 221, 222, 223, 224, 582, 583, 584, 585, 586, 587, 588] (by decide +kernel) (by decide +kernel)
set_option maxRecDepth 20000 in
theorem gL_law_X1_stretch : GoodIn wsL_law (wsV RL 144 RX1 yX1_stretch wsX1_stretch) := goodIn_app (goodIn_of _ (by decide +kernel)) ggL_law_X1_stretch
set_option maxRecDepth 20000 in
theorem ggL_law_L_isSteady : GoodIn wsL_law wsL_isSteady := goodIn_ca (goodIn_ca (goodIn_r _ [227, 35, 84, 228, 229, 230, 2, 231, 21, 188, 189, 190, 191, 43, 44, 45, 46, 47, 48, 49, 50, 92, 93, 94, 95, 96, 97, 54, 55, 56, 57, 15, 126, 127, 128, 129, 17, 130, 131, 132, 133, 18, 232, 233, 234, 196, 197, 198, 235, 236, 237, 238, 239, 240, 241, 202, 203, 204, 576, 577, 578, 579, 580, 581] (by decide +kernel) (by decide +kernel)) (goodIn_sub (fun _ h => List.mem_append_left _ (List.mem_append_left _ (List.mem_append_right _ h))) (by decide +kernel))) (goodIn_sub (fun _ h => List.mem_append_right _ h) (by decide +kernel))
set_option maxRecDepth 20000 in
theorem gL_law_L_isSteady : GoodIn wsL_law (va_wsS RL 145 yL_isSteady wsL_isSteady) := goodIn_app (goodIn_of _ (by decide +kernel)) ggL_law_L_isSteady
end
section
set_option maxRecDepth 20000 in
theorem ggL_law_X1_isSteady : GoodIn wsL_law wsX1_isSteady := goodIn_r _ [245, 209, 210, 211, 5, 212, 26, 66, 67, 68, 69, 70, 71, 72, 73, 74, 75, 76, 30, 582, 583, 584, 585, 586, 587, 588] (by decide +kernel) (by decide +kernel)
set_option maxRecDepth 20000 in
theorem gL_law_X1_isSteady : GoodIn wsL_law (wsV RL 147 RX1 yX1_isSteady wsX1_isSteady) := goodIn_app (goodIn_of _ (by decide +kernel)) ggL_law_X1_isSteady
set_option maxRecDepth 20000 in
theorem ggL_law_L_isDoubled : GoodIn wsL_law wsL_isDoubled := goodIn_ca (goodIn_ca (goodIn_r _ [248, 35, 84, 249, 250, 251, 2, 252, 188, 189, 190, 191, 43, 44, 45, 46, 47, 48, 49, 50, 92, 93, 94, 95, 96, 97, 54, 55, 56, 57, 15, 126, 127, 128, 129, 17, 130, 131, 132, 133, 18, 232, 233, 234, 196, 197, 198, 235, 236, 237, 238, 239, 240, 241, 202, 203, 204, 253, 254, 255, 576, 577, 578, 579, 580, 581] (by decide +kernel) (by decide +kernel)) (goodIn_sub (fun _ h => List.mem_append_left _ (List.mem_append_left _ (List.mem_append_right _ h))) (by decide +kernel))) (goodIn_sub (fun _ h => List.mem_append_right _ h) (by decide +kernel))
set_option maxRecDepth 20000 in
theorem gL_law_L_isDoubled : GoodIn wsL_law (va_wsS RL 148 yL_isDoubled wsL_isDoubled) := goodIn_app (goodIn_of _ (by decide +kernel)) ggL_law_L_isDoubled
set_option maxRecDepth 20000 in
theorem ggL_law_X1_isDoubled : GoodIn wsL_law wsX1_isDoubled := goodIn_r _ [259, 209, 210, 211, 5, 212, 26, 66, 67, 68, 69, 70, 71, 72, 73, 74, 75, 76, 30, 582, 583, 584, 585, 586, 587, 588] (by decide +kernel) (by decide +kernel)
set_option maxRecDepth 20000 in
theorem gL_law_X1_isDoubled : GoodIn wsL_law (wsV RL 150 RX1 yX1_isDoubled wsX1_isDoubled) := goodIn_app (goodIn_of _ (by decide +kernel)) ggL_law_X1_isDoubled
set_option maxRecDepth 20000 in
theorem ggL_law_L_isClose : GoodIn wsL_law wsL_isClose := goodIn_ca (goodIn_ca (goodIn_r _ [262, 35, 84, 263, 264, 265, 2, 266, 21, 188, 189, 190, 191, 43, 44, 45, 46, 47, 48, 49, 50, 92, 93, 94, 95, 96, 97, 54, 55, 56, 57, 15, 126, 127, 128, 129, 17, 130, 131, 132, 133, 18, 232, 233, 234, 196, 197, 198, 235, 236, 237, 238, 239, 240, 241, 202, 203, 204, 267, 268, 269, 270, 271, 272, 273, 274, 275, 276, 277, 278, 279, 576, 577, 578, 579, 580, 581] (by decide +kernel) (by decide +kernel)) (goodIn_sub (fun _ h => List.mem_append_left _ (List.mem_append_left _ (List.mem_append_right _ h))) (by decide +kernel))) (goodIn_sub (fun _ h => List.mem_append_right _ h) (by decide +kernel))
set_option maxRecDepth 20000 in
theorem gL_law_L_isClose : GoodIn wsL_law (va_wsS RL 151 yL_isClose wsL_isClose) := goodIn_app (goodIn_of _ (by decide +kernel)) ggL_law_L_isClose
set_option maxRecDepth 20000 in
theorem ggL_law_X1_isClose : GoodIn wsL_law wsX1_isClose := goodIn_r _ [283, 209, 210, 211, 5, 212, 26, 66, 67, 68, 69, 70, 71, 72, 73, 74, 75, 76, 30, 582, 583, 584, 585, 586, 587, 588] (by decide +kernel) (by decide +kernel)
set_option maxRecDepth 20000 in
theorem gL_law_X1_isClose : GoodIn wsL_law (wsV RL 153 RX1 yX1_isClose wsX1_isClose) := goodIn_app (goodIn_of _ (by decide +kernel)) ggL_law_X1_isClose
set_option maxRecDepth 20000 in
theorem ggL_law_L_isStraight : GoodIn wsL_law wsL_isStraight := goodIn_ca (goodIn_ca (goodIn_r _ [286, 35, 84, 287, 288, 289, 2, 290, 43, 44, 45, 46, 47, 48, 49, 50, 92, 93, 94, 95, 96, 97, 54, 55, 56, 57, 15, 192, 193, 194, 195, 21, 126, 127, 128, 129, 17, 130, 131, 132, 133, 18, 196, 197, 198, 199, 200, 201, 202, 203, 204, 576, 577, 578, 579, 580, 581] (by decide +kernel) (by decide +kernel)) (goodIn_sub (fun _ h => List.mem_append_left _ (List.mem_append_left _ (List.mem_append_right _ h))) (by decide +kernel))) (goodIn_sub (fun _ h => List.mem_append_right _ h) (by decide +kernel))
set_option maxRecDepth 20000 in
theorem gL_law_L_isStraight : GoodIn wsL_law (va_wsS RL 154 yL_isStraight wsL_isStraight) := goodIn_app (goodIn_of _ (by decide +kernel)) ggL_law_L_isStraight
set_option maxRecDepth 20000 in
theorem ggL_law_X1_isStraight : GoodIn wsL_law wsX1_isStraight := goodIn_r _ [294, 26, 66, 67, 68, 5, 69, 70, 71, 72, 73, 74, 75, 76, 30, 295, 296, 297, 298, 213, 214, 215, 216, 27, 28, 180, 217, 218, 219, 220, 221, 222, 223, 224, 582, 583, 584, 585, 586, 587, 588] (by decide +kernel) (by decide +kernel)
set_option maxRecDepth 20000 in
theorem gL_law_X1_isStraight : GoodIn wsL_law (wsV RL 156 RX1 yX1_isStraight wsX1_isStraight) := goodIn_app (goodIn_of _ (by decide +kernel)) ggL_law_X1_isStraight
set_option maxRecDepth 20000 in
theorem ggL_law_L_nearest : GoodIn wsL_law wsL_nearest := goodIn_ca (goodIn_ca (goodIn_ca (goodIn_r _ [301, 35, 84, 85, 302, 303, 304, 2, 305, 90, 91, 43, 44, 45, 46, 47, 48, 49, 50, 92, 93, 94, 95, 96, 97, 54, 55, 56, 57, 15, 306, 307, 308, 309, 192, 193, 194, 195, 21, 126, 127, 128, 129, 17, 130, 131, 132, 133, 18, 196, 197, 198, 199, 200, 201, 202, 203, 204, 576, 577, 578, 579, 580, 581] (by decide +kernel) (by decide +kernel)) (goodIn_sub (fun _ h => List.mem_append_left _ (List.mem_append_right _ h)) (by decide +kernel))) (goodIn_sub (fun _ h => List.mem_append_left _ (List.mem_append_left _ (List.mem_append_right _ h))) (by decide +kernel))) (goodIn_sub (fun _ h => List.mem_append_right _ h) (by decide +kernel))
set_option maxRecDepth 20000 in
theorem gL_law_L_nearest : GoodIn wsL_law (va_wsS RL 157 yL_nearest wsL_nearest) := goodIn_app (goodIn_of _ (by decide +kernel)) ggL_law_L_nearest
set_option maxRecDepth 20000 in
theorem ggL_law_X1_nearest : GoodIn wsL_law wsX1_nearest := goodIn_r _ [313, 110, 111, 112, 5, 113, 26, 66, 67, 68, 69, 70, 71, 72, 73, 74, 75, 76, 30, 314, 169, 170, 171, 315, 316, 317, 318, 213, 214, 215, 216, 27, 28, 180, 217, 218, 219, 220, 221, 222, 223, 224, 582, 583, 584, 585, 586, 587, 588] (by decide +kernel) (by decide +kernel)
set_option maxRecDepth 20000 in
theorem gL_law_X1_nearest : GoodIn wsL_law (wsV RL 159 RX1 yX1_nearest wsX1_nearest) := goodIn_app (goodIn_of _ (by decide +kernel)) ggL_law_X1_nearest
set_option maxRecDepth 20000 in
theorem ggL_law_L_rank : GoodIn wsL_law wsL_rank := goodIn_ca (goodIn_ca (goodIn_r _ [321, 35, 84, 322, 323, 324, 2, 325, 188, 189, 190, 191, 43, 44, 45, 46, 47, 48, 49, 50, 92, 93, 94, 95, 96, 97, 54, 55, 56, 57, 15, 192, 193, 194, 195, 21, 126, 127, 128, 129, 17, 130, 131, 132, 133, 18, 196, 197, 198, 199, 200, 201, 202, 203, 204, 576, 577, 578, 579, 580, 581] (by decide +kernel) (by decide +kernel)) (goodIn_sub (fun _ h => List.mem_append_left _ (List.mem_append_left _ (List.mem_append_right _ h))) (by decide +kernel))) (goodIn_sub (fun _ h => List.mem_append_right _ h) (by decide +kernel))
set_option maxRecDepth 20000 in
theorem gL_law_L_rank : GoodIn wsL_law (va_wsS RL 160 yL_rank wsL_rank) := goodIn_app (goodIn_of _ (by decide +kernel)) ggL_law_L_rank
set_option maxRecDepth 20000 in
theorem ggL_law_X1_rank : GoodIn wsL_law wsX1_rank := goodIn_r _ [329, 26, 209, 210, 211, 5, 212, 66, 67, 68, 69, 70, 71, 72, 73, 74, 75, 76, 30, 213, 214, 215, 216, 27, 28, 180, 217, 218, 219, 220, 221, 222, 223, 224, 582, 583, 584, 585, 586, 587, 588] (by decide +kernel) (by decide +kernel)
set_option maxRecDepth 20000 in
theorem gL_law_X1_rank : GoodIn wsL_law (wsV RL 162 RX1 yX1_rank wsX1_rank) := goodIn_app (goodIn_of _ (by decide +kernel)) ggL_law_X1_rank
set_option maxRecDepth 20000 in
theorem ggL_law_L_isIn : GoodIn wsL_law wsL_isIn := goodIn_ca (goodIn_ca (goodIn_ca (goodIn_r _ [332, 35, 84, 36, 333, 334, 335, 2, 336, 188, 189, 190, 191, 43, 44, 45, 46, 47, 48, 49, 50, 92, 93, 94, 95, 96, 97, 54, 55, 56, 57, 15, 337, 338, 339, 41, 42, 340, 341, 342, 192, 193, 194, 195, 21, 126, 127, 128, 129, 17, 130, 131, 132, 133, 18, 196, 197, 198, 199, 200, 201, 202, 203, 204, 343, 344, 345, 576, 577, 578, 579, 580, 581] (by decide +kernel) (by decide +kernel)) (goodIn_sub (fun _ h => List.mem_append_left _ (List.mem_append_left _ (List.mem_append_right _ h))) (by decide +kernel))) (goodIn_sub (fun _ h => List.mem_append_right _ h) (by decide +kernel))) (goodIn_sub (fun _ h => List.mem_append_left _ (List.mem_append_left _ (List.mem_append_left _ (List.mem_append_right _ h)))) (by decide +kernel))
set_option maxRecDepth 20000 in
theorem gL_law_L_isIn : GoodIn wsL_law (va_wsS RL 163 yL_isIn wsL_isIn) := goodIn_app (goodIn_of _ (by decide +kernel)) ggL_law_L_isIn
set_option maxRecDepth 20000 in
theorem ggL_law_X1_isIn : GoodIn wsL_law wsX1_isIn := goodIn_r _ [349, 209, 210, 211, 5, 212, 26, 66, 67, 68, 69, 70, 71, 72, 73, 74, 75, 76, 30, 350, 351, 352, 353, 213, 214, 215, 216, 27, 28, 180, 217, 218, 219, 220, 221, 222, 223, 224, 354, 355, 356, 582, 583, 584, 585, 586, 587, 588] (by decide +kernel) (by decide +kernel)
set_option maxRecDepth 20000 in
theorem gL_law_X1_isIn : GoodIn wsL_law (wsV RL 166 RX1 yX1_isIn wsX1_isIn) := goodIn_app (goodIn_of _ (by decide +kernel)) ggL_law_X1_isIn
set_option maxRecDepth 20000 in
theorem ggL_law_L_root : GoodIn wsL_law wsL_root := goodIn_ca (goodIn_r _ [359, 36, 360, 361, 362, 2, 363, 337, 338, 339, 41, 42, 340, 341, 342, 343, 344, 345, 235, 236, 237, 238, 239, 240, 241, 202, 203, 204, 364, 365, 366, 271, 272, 273, 267, 268, 269, 270] (by decide +kernel) (by decide +kernel)) (goodIn_sub (fun _ h => List.mem_append_left _ (List.mem_append_left _ (List.mem_append_left _ (List.mem_append_right _ h)))) (by decide +kernel))
set_option maxRecDepth 20000 in
theorem gL_law_L_root : GoodIn wsL_law (va_wsS RL 167 yL_root wsL_root) := goodIn_app (goodIn_of _ (by decide +kernel)) ggL_law_L_root
set_option maxRecDepth 20000 in
theorem ggL_law_X1_root : GoodIn wsL_law wsX1_root := goodIn_r _ [370, 371, 350, 351, 352, 5, 353, 70, 71, 72, 73, 74, 75, 76, 30, 372, 373, 374, 221, 222, 223, 224, 220, 217, 218, 219, 582, 583, 584, 585, 586, 587, 588] (by decide +kernel) (by decide +kernel)
set_option maxRecDepth 20000 in
theorem gL_law_X1_root : GoodIn wsL_law (wsV RL 170 RX1 yX1_root wsX1_root) := goodIn_app (goodIn_of _ (by decide +kernel)) ggL_law_X1_root
set_option maxRecDepth 20000 in
theorem ggL_law_L_rootBits : GoodIn wsL_law wsL_rootBits := goodIn_ca (goodIn_r _ [377, 36, 378, 379, 380, 2, 381, 337, 338, 339, 41, 42, 340, 341, 342, 343, 344, 345, 235, 236, 237, 238, 239, 240, 241, 202, 203, 204] (by decide +kernel) (by decide +kernel)) (goodIn_sub (fun _ h => List.mem_append_left _ (List.mem_append_left _ (List.mem_append_left _ (List.mem_append_right _ h)))) (by decide +kernel))
set_option maxRecDepth 20000 in
theorem gL_law_L_rootBits : GoodIn wsL_law (va_wsS RL 171 yL_rootBits wsL_rootBits) := goodIn_app (goodIn_of _ (by decide +kernel)) ggL_law_L_rootBits
set_option maxRecDepth 20000 in
theorem ggL_law_X1_rootBits : GoodIn wsL_law wsX1_rootBits := goodIn_r _ [385, 350, 351, 352, 5, 353, 70, 71, 72, 73, 74, 75, 76, 30, 386, 387, 388, 389, 390, 391, 372, 373, 374, 221, 222, 223, 224, 220, 217, 218, 219, 582, 583, 584, 585, 586, 587, 588] (by decide +kernel) (by decide +kernel)
set_option maxRecDepth 20000 in
theorem gL_law_X1_rootBits : GoodIn wsL_law (wsV RL 174 RX1 yX1_rootBits wsX1_rootBits) := goodIn_app (goodIn_of _ (by decide +kernel)) ggL_law_X1_rootBits
set_option maxRecDepth 20000 in
theorem ggL_law_L_rootGrains : GoodIn wsL_law wsL_rootGrains := goodIn_ca (goodIn_r _ [394, 36, 395, 396, 397, 2, 398, 337, 338, 339, 41, 42, 340, 341, 342, 343, 344, 345, 199, 200, 201, 202, 203, 204] (by decide +kernel) (by decide +kernel)) (goodIn_sub (fun _ h => List.mem_append_left _ (List.mem_append_left _ (List.mem_append_left _ (List.mem_append_right _ h)))) (by decide +kernel))
set_option maxRecDepth 20000 in
theorem gL_law_L_rootGrains : GoodIn wsL_law (va_wsS RL 175 yL_rootGrains wsL_rootGrains) := goodIn_app (goodIn_of _ (by decide +kernel)) ggL_law_L_rootGrains
set_option maxRecDepth 20000 in
theorem ggL_law_X1_rootGrains : GoodIn wsL_law wsX1_rootGrains := goodIn_r _ [402, 350, 351, 352, 5, 353, 70, 71, 72, 73, 74, 75, 76, 30, 354, 355, 356, 217, 218, 219, 220, 221, 222, 223, 224, 582, 583, 584, 585, 586, 587, 588] (by decide +kernel) (by decide +kernel)
set_option maxRecDepth 20000 in
theorem gL_law_X1_rootGrains : GoodIn wsL_law (wsV RL 177 RX1 yX1_rootGrains wsX1_rootGrains) := goodIn_app (goodIn_of _ (by decide +kernel)) ggL_law_X1_rootGrains
set_option maxRecDepth 20000 in
theorem ggL_law_L_wholeRoot : GoodIn wsL_law wsL_wholeRoot := goodIn_ca (goodIn_r _ [405, 36, 406, 407, 408, 2, 409, 337, 338, 339, 41, 42, 340, 341, 342, 410, 411, 412, 202, 203, 204] (by decide +kernel) (by decide +kernel)) (goodIn_sub (fun _ h => List.mem_append_left _ (List.mem_append_left _ (List.mem_append_left _ (List.mem_append_right _ h)))) (by decide +kernel))
set_option maxRecDepth 20000 in
theorem gL_law_L_wholeRoot : GoodIn wsL_law (va_wsS RL 178 yL_wholeRoot wsL_wholeRoot) := goodIn_app (goodIn_of _ (by decide +kernel)) ggL_law_L_wholeRoot
set_option maxRecDepth 20000 in
theorem ggL_law_X1_wholeRoot : GoodIn wsL_law wsX1_wholeRoot := goodIn_r _ [416, 350, 351, 352, 5, 353, 70, 71, 72, 73, 74, 75, 76, 30, 417, 418, 419, 221, 222, 223, 224, 220, 582, 583, 584, 585, 586, 587, 588] (by decide +kernel) (by decide +kernel)
set_option maxRecDepth 20000 in
theorem gL_law_X1_wholeRoot : GoodIn wsL_law (wsV RL 180 RX1 yX1_wholeRoot wsX1_wholeRoot) := goodIn_app (goodIn_of _ (by decide +kernel)) ggL_law_X1_wholeRoot
set_option maxRecDepth 20000 in
theorem ggL_law_L_isNearest : GoodIn wsL_law wsL_isNearest := goodIn_ca (goodIn_r _ [422, 36, 423, 424, 425, 2, 426, 278, 337, 338, 339, 41, 42, 340, 341, 342, 343, 344, 345, 235, 236, 237, 238, 239, 240, 241, 202, 203, 204, 267, 268, 269, 270, 271, 272, 273, 274, 275, 276, 277, 279] (by decide +kernel) (by decide +kernel)) (goodIn_sub (fun _ h => List.mem_append_left _ (List.mem_append_left _ (List.mem_append_left _ (List.mem_append_right _ h)))) (by decide +kernel))
set_option maxRecDepth 20000 in
theorem gL_law_L_isNearest : GoodIn wsL_law (va_wsS RL 181 yL_isNearest wsL_isNearest) := goodIn_app (goodIn_of _ (by decide +kernel)) ggL_law_L_isNearest
set_option maxRecDepth 20000 in
theorem ggL_law_X1_isNearest : GoodIn wsL_law wsX1_isNearest := goodIn_r _ [430, 350, 351, 352, 5, 353, 70, 71, 72, 73, 74, 75, 76, 30, 582, 583, 584, 585, 586, 587, 588] (by decide +kernel) (by decide +kernel)
set_option maxRecDepth 20000 in
theorem gL_law_X1_isNearest : GoodIn wsL_law (wsV RL 183 RX1 yX1_isNearest wsX1_isNearest) := goodIn_app (goodIn_of _ (by decide +kernel)) ggL_law_X1_isNearest
set_option maxRecDepth 20000 in
theorem ggL_law_L_isHalved : GoodIn wsL_law wsL_isHalved := goodIn_ca (goodIn_r _ [433, 36, 434, 435, 436, 2, 437, 337, 338, 339, 41, 42, 340, 341, 342, 343, 344, 345, 235, 236, 237, 238, 239, 240, 241, 202, 203, 204, 253, 254, 255] (by decide +kernel) (by decide +kernel)) (goodIn_sub (fun _ h => List.mem_append_left _ (List.mem_append_left _ (List.mem_append_left _ (List.mem_append_right _ h)))) (by decide +kernel))
set_option maxRecDepth 20000 in
theorem gL_law_L_isHalved : GoodIn wsL_law (va_wsS RL 184 yL_isHalved wsL_isHalved) := goodIn_app (goodIn_of _ (by decide +kernel)) ggL_law_L_isHalved
set_option maxRecDepth 20000 in
theorem ggL_law_X1_isHalved : GoodIn wsL_law wsX1_isHalved := goodIn_r _ [441, 350, 351, 352, 5, 353, 70, 71, 72, 73, 74, 75, 76, 30, 582, 583, 584, 585, 586, 587, 588] (by decide +kernel) (by decide +kernel)
set_option maxRecDepth 20000 in
theorem gL_law_X1_isHalved : GoodIn wsL_law (wsV RL 186 RX1 yX1_isHalved wsX1_isHalved) := goodIn_app (goodIn_of _ (by decide +kernel)) ggL_law_X1_isHalved
set_option maxRecDepth 20000 in
theorem ggL_law_L_between : GoodIn wsL_law wsL_between := goodIn_ca (goodIn_r _ [444, 36, 445, 446, 447, 2, 448, 337, 338, 339, 41, 42, 340, 341, 342, 410, 411, 412, 202, 203, 204] (by decide +kernel) (by decide +kernel)) (goodIn_sub (fun _ h => List.mem_append_left _ (List.mem_append_left _ (List.mem_append_left _ (List.mem_append_right _ h)))) (by decide +kernel))
set_option maxRecDepth 20000 in
theorem gL_law_L_between : GoodIn wsL_law (va_wsS RL 187 yL_between wsL_between) := goodIn_app (goodIn_of _ (by decide +kernel)) ggL_law_L_between
set_option maxRecDepth 20000 in
theorem ggL_law_X1_between : GoodIn wsL_law wsX1_between := goodIn_r _ [452, 350, 351, 352, 5, 353, 70, 71, 72, 73, 74, 75, 76, 30, 417, 418, 419, 221, 222, 223, 224, 220, 582, 583, 584, 585, 586, 587, 588] (by decide +kernel) (by decide +kernel)
set_option maxRecDepth 20000 in
theorem gL_law_X1_between : GoodIn wsL_law (wsV RL 190 RX1 yX1_between wsX1_between) := goodIn_app (goodIn_of _ (by decide +kernel)) ggL_law_X1_between
set_option maxRecDepth 20000 in
theorem ggL_law_L_join : GoodIn wsL_law wsL_join := goodIn_ca (goodIn_ca (goodIn_ca (goodIn_r _ [455, 35, 84, 85, 456, 457, 458, 2, 459, 90, 91, 20, 19, 43, 44, 45, 46, 47, 48, 49, 50, 92, 93, 94, 95, 96, 97, 54, 55, 56, 57, 15, 576, 577, 578, 579, 580, 581] (by decide +kernel) (by decide +kernel)) (goodIn_sub (fun _ h => List.mem_append_left _ (List.mem_append_right _ h)) (by decide +kernel))) (goodIn_sub (fun _ h => List.mem_append_left _ (List.mem_append_left _ (List.mem_append_right _ h))) (by decide +kernel))) (goodIn_sub (fun _ h => List.mem_append_right _ h) (by decide +kernel))
set_option maxRecDepth 20000 in
theorem gL_law_L_join : GoodIn wsL_law (va_wsS RL 191 yL_join wsL_join) := goodIn_app (goodIn_of _ (by decide +kernel)) ggL_law_L_join
set_option maxRecDepth 20000 in
theorem ggL_law_X1_join : GoodIn wsL_law wsX1_join := goodIn_r _ [463, 118, 29, 110, 111, 112, 5, 113, 26, 66, 67, 68, 69, 70, 71, 72, 73, 74, 75, 76, 30, 582, 583, 584, 585, 586, 587, 588] (by decide +kernel) (by decide +kernel)
set_option maxRecDepth 20000 in
theorem gL_law_X1_join : GoodIn wsL_law (wsV RL 193 RX1 yX1_join wsX1_join) := goodIn_app (goodIn_of _ (by decide +kernel)) ggL_law_X1_join
set_option maxRecDepth 20000 in
theorem ggL_law_L_unjoin : GoodIn wsL_law wsL_unjoin := goodIn_ca (goodIn_r _ [466, 85, 467, 468, 469, 2, 470, 90, 91, 20, 102, 103, 104, 105, 19, 576, 577, 578, 579, 580, 581] (by decide +kernel) (by decide +kernel)) (goodIn_sub (fun _ h => List.mem_append_left _ (List.mem_append_right _ h)) (by decide +kernel))
set_option maxRecDepth 20000 in
theorem gL_law_L_unjoin : GoodIn wsL_law (va_wsS RL 194 yL_unjoin wsL_unjoin) := goodIn_app (goodIn_of _ (by decide +kernel)) ggL_law_L_unjoin
set_option maxRecDepth 20000 in
theorem ggL_law_X1_unjoin : GoodIn wsL_law wsX1_unjoin := goodIn_r _ [474, 118, 29, 73, 74, 75, 5, 76, 30, 582, 583, 584, 585, 586, 587, 588] (by decide +kernel) (by decide +kernel)
set_option maxRecDepth 20000 in
theorem gL_law_X1_unjoin : GoodIn wsL_law (wsV RL 197 RX1 yX1_unjoin wsX1_unjoin) := goodIn_app (goodIn_of _ (by decide +kernel)) ggL_law_X1_unjoin
set_option maxRecDepth 20000 in
theorem ggL_law_L_ringAt : GoodIn wsL_law wsL_ringAt := goodIn_ca (goodIn_r _ [477, 35, 478, 479, 480, 2, 481, 46, 47, 20, 102, 103, 104, 105, 19, 576, 577, 578, 579, 580, 581] (by decide +kernel) (by decide +kernel)) (goodIn_sub (fun _ h => List.mem_append_left _ (List.mem_append_left _ (List.mem_append_right _ h))) (by decide +kernel))
set_option maxRecDepth 20000 in
theorem gL_law_L_ringAt : GoodIn wsL_law (va_wsS RL 198 yL_ringAt wsL_ringAt) := goodIn_app (goodIn_of _ (by decide +kernel)) ggL_law_L_ringAt
set_option maxRecDepth 20000 in
theorem ggL_law_X1_ringAt : GoodIn wsL_law wsX1_ringAt := goodIn_r _ [485, 118, 29, 70, 71, 5, 72, 73, 74, 75, 76, 30, 582, 583, 584, 585, 586, 587, 588] (by decide +kernel) (by decide +kernel)
set_option maxRecDepth 20000 in
theorem gL_law_X1_ringAt : GoodIn wsL_law (wsV RL 200 RX1 yX1_ringAt wsX1_ringAt) := goodIn_app (goodIn_of _ (by decide +kernel)) ggL_law_X1_ringAt
set_option maxRecDepth 20000 in
theorem ggL_law_X0_around : GoodIn wsL_law wsX0_around := goodIn_r _ [489, 20, 102, 103, 104, 2, 105, 19, 490, 491, 492, 493, 192, 193, 194, 195, 21, 126, 127, 128, 129, 17, 48, 49, 50, 130, 131, 132, 133, 18, 196, 197, 198, 199, 200, 201, 202, 203, 204, 576, 577, 578, 579, 580, 581] (by decide +kernel) (by decide +kernel)
set_option maxRecDepth 20000 in
theorem gL_law_X0_around : GoodIn wsL_law (wsV RL 201 RX0 yX0_around wsX0_around) := goodIn_app (goodIn_of _ (by decide +kernel)) ggL_law_X0_around
set_option maxRecDepth 20000 in
theorem ggL_law_X1_around : GoodIn wsL_law wsX1_around := goodIn_r _ [497, 118, 29, 498, 499, 500, 5, 501, 213, 214, 215, 216, 27, 28, 180, 217, 218, 219, 220, 221, 222, 223, 224, 582, 583, 584, 585, 586, 587, 588] (by decide +kernel) (by decide +kernel)
set_option maxRecDepth 20000 in
theorem gL_law_X1_around : GoodIn wsL_law (wsV RL 204 RX1 yX1_around wsX1_around) := goodIn_app (goodIn_of _ (by decide +kernel)) ggL_law_X1_around
set_option maxRecDepth 20000 in
theorem ggL_law_X0_doubleArea : GoodIn wsL_law wsX0_doubleArea := goodIn_r _ [505, 20, 102, 103, 104, 2, 105, 19, 490, 491, 492, 493, 126, 127, 128, 129, 17, 48, 49, 50, 130, 131, 132, 133, 18, 576, 577, 578, 579, 580, 581] (by decide +kernel) (by decide +kernel)
set_option maxRecDepth 20000 in
theorem gL_law_X0_doubleArea : GoodIn wsL_law (wsV RL 205 RX0 yX0_doubleArea wsX0_doubleArea) := goodIn_app (goodIn_of _ (by decide +kernel)) ggL_law_X0_doubleArea
set_option maxRecDepth 20000 in
theorem ggL_law_X1_doubleArea : GoodIn wsL_law wsX1_doubleArea := goodIn_r _ [509, 118, 27, 29, 28, 498, 499, 500, 5, 501, 582, 583, 584, 585, 586, 587, 588] (by decide +kernel) (by decide +kernel)
set_option maxRecDepth 20000 in
theorem gL_law_X1_doubleArea : GoodIn wsL_law (wsV RL 208 RX1 yX1_doubleArea wsX1_doubleArea) := goodIn_app (goodIn_of _ (by decide +kernel)) ggL_law_X1_doubleArea
set_option maxRecDepth 20000 in
theorem ggL_law_L_sideBits : GoodIn wsL_law wsL_sideBits := goodIn_ca (goodIn_r _ [512, 85, 513, 514, 515, 2, 516, 90, 91, 517, 518, 519, 520, 521, 503, 504, 505, 20, 102, 103, 104, 105, 19, 490, 491, 492, 493, 126, 127, 128, 129, 17, 48, 49, 50, 130, 131, 132, 133, 18, 340, 341, 342, 343, 344, 345, 235, 236, 237, 238, 239, 240, 241, 202, 203, 204, 576, 577, 578, 579, 580, 581] (by decide +kernel) (by decide +kernel)) (goodIn_sub (fun _ h => List.mem_append_left _ (List.mem_append_right _ h)) (by decide +kernel))
set_option maxRecDepth 20000 in
theorem gL_law_L_sideBits : GoodIn wsL_law (va_wsS RL 209 yL_sideBits wsL_sideBits) := goodIn_app (goodIn_of _ (by decide +kernel)) ggL_law_L_sideBits
set_option maxRecDepth 20000 in
theorem ggL_law_X1_sideBits : GoodIn wsL_law wsX1_sideBits := goodIn_r _ [525, 526, 507, 508, 5, 509, 118, 27, 29, 28, 498, 499, 500, 501, 73, 74, 75, 76, 30, 386, 387, 388, 389, 390, 391, 372, 373, 374, 221, 222, 223, 224, 220, 217, 218, 219, 582, 583, 584, 585, 586, 587, 588] (by decide +kernel) (by decide +kernel)
set_option maxRecDepth 20000 in
theorem gL_law_X1_sideBits : GoodIn wsL_law (wsV RL 211 RX1 yX1_sideBits wsX1_sideBits) := goodIn_app (goodIn_of _ (by decide +kernel)) ggL_law_X1_sideBits
set_option maxRecDepth 20000 in
theorem ggL_law_X0_checksum : GoodIn wsL_law wsX0_checksum := goodIn_r _ [530, 531, 532, 20, 21, 54, 55, 56, 2, 57, 15, 48, 49, 50, 130, 131, 132, 133, 18, 126, 127, 128, 129, 17, 306, 307, 308, 309, 192, 193, 194, 195, 196, 197, 198, 199, 200, 201, 202, 203, 204, 102, 103, 104, 105, 19, 533, 487, 488, 489, 490, 491, 492, 493, 576, 577, 578, 579, 580, 581] (by decide +kernel) (by decide +kernel)
set_option maxRecDepth 20000 in
theorem gL_law_X0_checksum : GoodIn wsL_law (wsV RL 212 RX0 yX0_checksum wsX0_checksum) := goodIn_app (goodIn_of _ (by decide +kernel)) ggL_law_X0_checksum
set_option maxRecDepth 20000 in
theorem ggL_law_X1_checksum : GoodIn wsL_law wsX1_checksum := goodIn_r _ [537, 538, 26, 539, 118, 29, 180, 160, 161, 162, 5, 163, 28, 27, 315, 316, 317, 318, 213, 214, 215, 216, 217, 218, 219, 220, 221, 222, 223, 224, 540, 495, 496, 497, 498, 499, 500, 501, 582, 583, 584, 585, 586, 587, 588] (by decide +kernel) (by decide +kernel)
set_option maxRecDepth 20000 in
theorem gL_law_X1_checksum : GoodIn wsL_law (wsV RL 215 RX1 yX1_checksum wsX1_checksum) := goodIn_app (goodIn_of _ (by decide +kernel)) ggL_law_X1_checksum
set_option maxRecDepth 20000 in
theorem ggL_law_X0_isSound : GoodIn wsL_law wsX0_isSound := goodIn_ca (goodIn_ca (goodIn_ca (goodIn_r _ [544, 545, 546, 547, 2, 548, 54, 55, 56, 57, 15, 48, 49, 50, 549, 229, 230, 231, 21, 188, 189, 190, 191, 43, 44, 45, 46, 47, 92, 93, 94, 95, 96, 97, 126, 127, 128, 129, 17, 130, 131, 132, 133, 18, 232, 233, 234, 196, 197, 198, 235, 236, 237, 238, 239, 240, 241, 202, 203, 204, 550, 250, 251, 252, 253, 254, 255, 551, 264, 265, 266, 267, 268, 269, 270, 271, 272, 273, 274, 275, 276, 277, 278, 279, 552, 553, 554, 555, 556, 557, 558, 559, 560, 288, 289, 290, 192, 193, 194, 195, 199, 200, 201, 561, 562, 563, 564, 517, 518, 519, 520, 521, 503, 504, 505, 20, 102, 103, 104, 105, 19, 490, 491, 492, 493, 340, 341, 342, 565, 566, 567, 568, 569, 424, 425, 426, 337, 338, 339, 41, 42, 343, 344, 345, 570, 435, 436, 437, 571, 361, 362, 363, 364, 365, 366, 576, 577, 578, 579, 580, 581] (by decide +kernel) (by decide +kernel)) (goodIn_sub (fun _ h => List.mem_append_left _ (List.mem_append_left _ (List.mem_append_right _ h))) (by decide +kernel))) (goodIn_sub (fun _ h => List.mem_append_right _ h) (by decide +kernel))) (goodIn_sub (fun _ h => List.mem_append_left _ (List.mem_append_left _ (List.mem_append_left _ (List.mem_append_right _ h)))) (by decide +kernel))
set_option maxRecDepth 20000 in
theorem gL_law_X0_isSound : GoodIn wsL_law (wsV RL 216 RX0 yX0_isSound wsX0_isSound) := goodIn_app (goodIn_of _ (by decide +kernel)) ggL_law_X0_isSound
set_option maxRecDepth 20000 in
theorem ggL_law_X1_isSound : GoodIn wsL_law wsX1_isSound := goodIn_r _ [575, 26, 295, 296, 297, 5, 298, 213, 214, 215, 216, 27, 28, 180, 217, 218, 219, 220, 221, 222, 223, 224, 582, 583, 584, 585, 586, 587, 588] (by decide +kernel) (by decide +kernel)
set_option maxRecDepth 20000 in
theorem gL_law_X1_isSound : GoodIn wsL_law (wsV RL 220 RX1 yX1_isSound wsX1_isSound) := goodIn_app (goodIn_of _ (by decide +kernel)) ggL_law_X1_isSound
end
section
set_option maxRecDepth 20000 in
theorem ggX0_put_X0_requirePeg : GoodIn wsX0_put wsX0_requirePeg := goodIn_ca (goodIn_r _ [6, 7, 8, 9, 10, 5, 11] (by decide +kernel) (by decide +kernel)) (goodIn_sub (fun _ h => List.mem_cons_of_mem _ (List.mem_append_right _ h)) (by decide +kernel))
set_option maxRecDepth 20000 in
theorem gX0_put_X0_requirePeg : GoodIn wsX0_put (va_wsS RX0 31 yX0_requirePeg wsX0_requirePeg) := goodIn_app (goodIn_of _ (by decide +kernel)) ggX0_put_X0_requirePeg
set_option maxRecDepth 20000 in
theorem ggX0_put_X0_isPlace : GoodIn wsX0_put wsX0_isPlace := goodIn_r _ [14] (by decide +kernel) (by decide +kernel)
set_option maxRecDepth 20000 in
theorem gX0_put_X0_isPlace : GoodIn wsX0_put (va_wsS RX0 35 yX0_isPlace wsX0_isPlace) := goodIn_app (goodIn_of _ (by decide +kernel)) ggX0_put_X0_isPlace
set_option maxRecDepth 20000 in
theorem ggX0_put_X0_stands : GoodIn wsX0_put wsX0_stands := goodIn_r _ [18, 19, 9, 10, 5, 11, 26, 27, 28, 29, 30, 31] (by decide +kernel) (by decide +kernel)
set_option maxRecDepth 20000 in
theorem gX0_put_X0_stands : GoodIn wsX0_put (wsV RX0 46 RX0 yX0_stands wsX0_stands) := goodIn_app (goodIn_of _ (by decide +kernel)) ggX0_put_X0_stands
set_option maxRecDepth 20000 in
theorem ggX0_put_X0_moveTo : GoodIn wsX0_put wsX0_moveTo := goodIn_r _ [23, 19, 24, 25, 9, 10, 5, 11, 26, 27, 28, 29, 30, 31] (by decide +kernel) (by decide +kernel)
set_option maxRecDepth 20000 in
theorem gX0_put_X0_moveTo : GoodIn wsX0_put (wsV RX0 49 RX0 yX0_moveTo wsX0_moveTo) := goodIn_app (goodIn_of _ (by decide +kernel)) ggX0_put_X0_moveTo
set_option maxRecDepth 20000 in
theorem ggX0_take_X0_requirePeg : GoodIn wsX0_take wsX0_requirePeg := goodIn_ca (goodIn_r _ [7, 8, 9, 10, 11, 6, 12] (by decide +kernel) (by decide +kernel)) (goodIn_sub (fun _ h => List.mem_cons_of_mem _ (List.mem_append_left _ (List.mem_append_right _ h))) (by decide +kernel))
set_option maxRecDepth 20000 in
theorem gX0_take_X0_requirePeg : GoodIn wsX0_take (va_wsS RX0 31 yX0_requirePeg wsX0_requirePeg) := goodIn_app (goodIn_of _ (by decide +kernel)) ggX0_take_X0_requirePeg
set_option maxRecDepth 20000 in
theorem ggX0_take_X0_requireStanding : GoodIn wsX0_take wsX0_requireStanding := goodIn_ca (goodIn_r _ [16, 17, 18, 19, 20, 21, 6, 22, 3, 10, 11, 12, 33, 34, 35, 36, 37, 38] (by decide +kernel) (by decide +kernel)) (goodIn_sub (fun _ h => List.mem_cons_of_mem _ (List.mem_append_right _ h)) (by decide +kernel))
set_option maxRecDepth 20000 in
theorem gX0_take_X0_requireStanding : GoodIn wsX0_take (wsV RX0 53 RX0 yX0_requireStanding wsX0_requireStanding) := goodIn_app (goodIn_of _ (by decide +kernel)) ggX0_take_X0_requireStanding
set_option maxRecDepth 20000 in
theorem ggX0_take_X0_isInRing : GoodIn wsX0_take wsX0_isInRing := goodIn_r _ [26, 27, 28, 29, 30, 6, 31, 32, 33, 34, 35, 36, 37, 38] (by decide +kernel) (by decide +kernel)
set_option maxRecDepth 20000 in
theorem gX0_take_X0_isInRing : GoodIn wsX0_take (wsV RX0 56 RX0 yX0_isInRing wsX0_isInRing) := goodIn_app (goodIn_of _ (by decide +kernel)) ggX0_take_X0_isInRing
set_option maxRecDepth 20000 in
theorem ggX0_take_X0_isPeg : GoodIn wsX0_take wsX0_isPeg := goodIn_r _ [12] (by decide +kernel) (by decide +kernel)
set_option maxRecDepth 20000 in
theorem gX0_take_X0_isPeg : GoodIn wsX0_take (va_wsS RX0 64 yX0_isPeg wsX0_isPeg) := goodIn_app (goodIn_of _ (by decide +kernel)) ggX0_take_X0_isPeg
set_option maxRecDepth 20000 in
theorem ggX0_step_X0_requirePeg : GoodIn wsX0_step wsX0_requirePeg := goodIn_ca (goodIn_r _ [6, 7, 8, 9, 10, 5, 11] (by decide +kernel) (by decide +kernel)) (goodIn_sub (fun _ h => List.mem_cons_of_mem _ (List.mem_append_left _ (List.mem_append_right _ h))) (by decide +kernel))
set_option maxRecDepth 20000 in
theorem gX0_step_X0_requirePeg : GoodIn wsX0_step (va_wsS RX0 31 yX0_requirePeg wsX0_requirePeg) := goodIn_app (goodIn_of _ (by decide +kernel)) ggX0_step_X0_requirePeg
set_option maxRecDepth 20000 in
theorem ggX0_step_X0_requireStanding : GoodIn wsX0_step wsX0_requireStanding := goodIn_ca (goodIn_r _ [15, 16, 17, 18, 19, 20, 5, 21, 22, 9, 10, 11, 40, 41, 42, 43, 44, 45] (by decide +kernel) (by decide +kernel)) (goodIn_sub (fun _ h => List.mem_cons_of_mem _ (List.mem_append_right _ h)) (by decide +kernel))
set_option maxRecDepth 20000 in
theorem gX0_step_X0_requireStanding : GoodIn wsX0_step (wsV RX0 53 RX0 yX0_requireStanding wsX0_requireStanding) := goodIn_app (goodIn_of _ (by decide +kernel)) ggX0_step_X0_requireStanding
set_option maxRecDepth 20000 in
theorem ggX0_step_X0_across : GoodIn wsX0_step wsX0_across := goodIn_r _ [26, 27, 9, 10, 5, 11, 40, 41, 42, 43, 44, 45] (by decide +kernel) (by decide +kernel)
set_option maxRecDepth 20000 in
theorem gX0_step_X0_across : GoodIn wsX0_step (wsV RX0 69 RX0 yX0_across wsX0_across) := goodIn_app (goodIn_of _ (by decide +kernel)) ggX0_step_X0_across
set_option maxRecDepth 20000 in
theorem ggX0_step_X0_up : GoodIn wsX0_step wsX0_up := goodIn_r _ [31, 32, 9, 10, 5, 11, 40, 41, 42, 43, 44, 45] (by decide +kernel) (by decide +kernel)
set_option maxRecDepth 20000 in
theorem gX0_step_X0_up : GoodIn wsX0_step (wsV RX0 73 RX0 yX0_up wsX0_up) := goodIn_app (goodIn_of _ (by decide +kernel)) ggX0_step_X0_up
set_option maxRecDepth 20000 in
theorem ggX0_step_X0_isPlace : GoodIn wsX0_step wsX0_isPlace := goodIn_r _ [35] (by decide +kernel) (by decide +kernel)
set_option maxRecDepth 20000 in
theorem gX0_step_X0_isPlace : GoodIn wsX0_step (va_wsS RX0 35 yX0_isPlace wsX0_isPlace) := goodIn_app (goodIn_of _ (by decide +kernel)) ggX0_step_X0_isPlace
set_option maxRecDepth 20000 in
theorem ggX0_step_X0_moveTo : GoodIn wsX0_step wsX0_moveTo := goodIn_r _ [39, 22, 27, 32, 9, 10, 5, 11, 40, 41, 42, 43, 44, 45] (by decide +kernel) (by decide +kernel)
set_option maxRecDepth 20000 in
theorem gX0_step_X0_moveTo : GoodIn wsX0_step (wsV RX0 49 RX0 yX0_moveTo wsX0_moveTo) := goodIn_app (goodIn_of _ (by decide +kernel)) ggX0_step_X0_moveTo
set_option maxRecDepth 20000 in
theorem ggX0_isThere_X0_requirePeg : GoodIn wsX0_isThere wsX0_requirePeg := goodIn_ca (goodIn_r _ [4, 5, 6, 7, 8, 3, 9] (by decide +kernel) (by decide +kernel)) (goodIn_sub (fun _ h => List.mem_cons_of_mem _ (List.mem_append_right _ h)) (by decide +kernel))
set_option maxRecDepth 20000 in
theorem gX0_isThere_X0_requirePeg : GoodIn wsX0_isThere (va_wsS RX0 31 yX0_requirePeg wsX0_requirePeg) := goodIn_app (goodIn_of _ (by decide +kernel)) ggX0_isThere_X0_requirePeg
set_option maxRecDepth 20000 in
theorem ggX0_isThere_X0_stands : GoodIn wsX0_isThere wsX0_stands := goodIn_r _ [13, 14, 7, 8, 3, 9, 15, 16, 17, 18, 19, 20] (by decide +kernel) (by decide +kernel)
set_option maxRecDepth 20000 in
theorem gX0_isThere_X0_stands : GoodIn wsX0_isThere (wsV RX0 46 RX0 yX0_stands wsX0_stands) := goodIn_app (goodIn_of _ (by decide +kernel)) ggX0_isThere_X0_stands
set_option maxRecDepth 20000 in
theorem ggX0_placeOf_X0_requirePeg : GoodIn wsX0_placeOf wsX0_requirePeg := goodIn_ca (goodIn_r _ [4, 5, 6, 7, 8, 3, 9] (by decide +kernel) (by decide +kernel)) (goodIn_sub (fun _ h => List.mem_cons_of_mem _ (List.mem_append_left _ (List.mem_append_right _ h))) (by decide +kernel))
set_option maxRecDepth 20000 in
theorem gX0_placeOf_X0_requirePeg : GoodIn wsX0_placeOf (va_wsS RX0 31 yX0_requirePeg wsX0_requirePeg) := goodIn_app (goodIn_of _ (by decide +kernel)) ggX0_placeOf_X0_requirePeg
set_option maxRecDepth 20000 in
theorem ggX0_placeOf_X0_requireStanding : GoodIn wsX0_placeOf wsX0_requireStanding := goodIn_ca (goodIn_r _ [13, 14, 15, 16, 17, 18, 3, 19, 20, 7, 8, 9, 31, 32, 33, 34, 35, 36] (by decide +kernel) (by decide +kernel)) (goodIn_sub (fun _ h => List.mem_cons_of_mem _ (List.mem_append_right _ h)) (by decide +kernel))
set_option maxRecDepth 20000 in
theorem gX0_placeOf_X0_requireStanding : GoodIn wsX0_placeOf (wsV RX0 53 RX0 yX0_requireStanding wsX0_requireStanding) := goodIn_app (goodIn_of _ (by decide +kernel)) ggX0_placeOf_X0_requireStanding
set_option maxRecDepth 20000 in
theorem ggX0_placeOf_X0_up : GoodIn wsX0_placeOf wsX0_up := goodIn_r _ [24, 25, 7, 8, 3, 9, 31, 32, 33, 34, 35, 36] (by decide +kernel) (by decide +kernel)
set_option maxRecDepth 20000 in
theorem gX0_placeOf_X0_up : GoodIn wsX0_placeOf (wsV RX0 73 RX0 yX0_up wsX0_up) := goodIn_app (goodIn_of _ (by decide +kernel)) ggX0_placeOf_X0_up
set_option maxRecDepth 20000 in
theorem ggX0_placeOf_X0_across : GoodIn wsX0_placeOf wsX0_across := goodIn_r _ [29, 30, 7, 8, 3, 9, 31, 32, 33, 34, 35, 36] (by decide +kernel) (by decide +kernel)
set_option maxRecDepth 20000 in
theorem gX0_placeOf_X0_across : GoodIn wsX0_placeOf (wsV RX0 69 RX0 yX0_across wsX0_across) := goodIn_app (goodIn_of _ (by decide +kernel)) ggX0_placeOf_X0_across
set_option maxRecDepth 20000 in
theorem ggX0_count_X0_stands : GoodIn wsX0_count wsX0_stands := goodIn_r _ [5, 6, 7, 8, 4, 9, 10, 11, 12, 13, 14, 15] (by decide +kernel) (by decide +kernel)
set_option maxRecDepth 20000 in
theorem gX0_count_X0_stands : GoodIn wsX0_count (wsV RX0 46 RX0 yX0_stands wsX0_stands) := goodIn_app (goodIn_of _ (by decide +kernel)) ggX0_count_X0_stands
set_option maxRecDepth 20000 in
theorem ggX0_stretch_X0_requireTwo : GoodIn wsX0_stretch wsX0_requireTwo := goodIn_ca (goodIn_ca (goodIn_r _ [5, 6, 7, 4, 8, 9, 10, 11, 12, 13, 14, 15, 16, 17, 18, 19, 20, 21, 22, 23, 24, 49, 50, 51, 52, 53, 54] (by decide +kernel) (by decide +kernel)) (goodIn_sub (fun _ h => List.mem_cons_of_mem _ (List.mem_append_left _ (List.mem_append_right _ h))) (by decide +kernel))) (goodIn_sub (fun _ h => List.mem_cons_of_mem _ (List.mem_append_right _ h)) (by decide +kernel))
set_option maxRecDepth 20000 in
theorem gX0_stretch_X0_requireTwo : GoodIn wsX0_stretch (wsV RX0 76 RX0 yX0_requireTwo wsX0_requireTwo) := goodIn_app (goodIn_of _ (by decide +kernel)) ggX0_stretch_X0_requireTwo
set_option maxRecDepth 20000 in
theorem ggX0_stretch_X0_stretchGrains : GoodIn wsX0_stretch wsX0_stretchGrains := goodIn_r _ [28, 29, 30, 31, 32, 4, 33, 34, 11, 12, 13, 35, 36, 37, 38, 39, 40, 41, 42, 43, 44, 45, 46, 47, 48, 49, 50, 51, 52, 53, 54] (by decide +kernel) (by decide +kernel)
set_option maxRecDepth 20000 in
theorem gX0_stretch_X0_stretchGrains : GoodIn wsX0_stretch (wsV RX0 80 RX0 yX0_stretchGrains wsX0_stretchGrains) := goodIn_app (goodIn_of _ (by decide +kernel)) ggX0_stretch_X0_stretchGrains
set_option maxRecDepth 20000 in
theorem ggX0_isSteady_X0_requireTwo : GoodIn wsX0_isSteady wsX0_requireTwo := goodIn_ca (goodIn_ca (goodIn_r _ [6, 7, 8, 5, 9, 10, 11, 12, 13, 14, 15, 16, 17, 18, 19, 20, 21, 22, 23, 24, 25, 52, 53, 54, 55, 56, 57] (by decide +kernel) (by decide +kernel)) (goodIn_sub (fun _ h => List.mem_cons_of_mem _ (List.mem_append_left _ (List.mem_append_right _ h))) (by decide +kernel))) (goodIn_sub (fun _ h => List.mem_cons_of_mem _ (List.mem_append_right _ h)) (by decide +kernel))
set_option maxRecDepth 20000 in
theorem gX0_isSteady_X0_requireTwo : GoodIn wsX0_isSteady (wsV RX0 76 RX0 yX0_requireTwo wsX0_requireTwo) := goodIn_app (goodIn_of _ (by decide +kernel)) ggX0_isSteady_X0_requireTwo
set_option maxRecDepth 20000 in
theorem ggX0_isSteady_X0_across : GoodIn wsX0_isSteady wsX0_across := goodIn_r _ [29, 30, 12, 13, 5, 14, 52, 53, 54, 55, 56, 57] (by decide +kernel) (by decide +kernel)
set_option maxRecDepth 20000 in
theorem gX0_isSteady_X0_across : GoodIn wsX0_isSteady (wsV RX0 69 RX0 yX0_across wsX0_across) := goodIn_app (goodIn_of _ (by decide +kernel)) ggX0_isSteady_X0_across
set_option maxRecDepth 20000 in
theorem ggX0_isSteady_X0_up : GoodIn wsX0_isSteady wsX0_up := goodIn_r _ [34, 35, 12, 13, 5, 14, 52, 53, 54, 55, 56, 57] (by decide +kernel) (by decide +kernel)
set_option maxRecDepth 20000 in
theorem gX0_isSteady_X0_up : GoodIn wsX0_isSteady (wsV RX0 73 RX0 yX0_up wsX0_up) := goodIn_app (goodIn_of _ (by decide +kernel)) ggX0_isSteady_X0_up
set_option maxRecDepth 20000 in
theorem ggX0_isSteady_X0_hypotenuseBits : GoodIn wsX0_isSteady wsX0_hypotenuseBits := goodIn_r _ [38, 39, 40, 5, 41, 42, 43, 44, 45, 46, 47, 48, 49, 50, 51] (by decide +kernel) (by decide +kernel)
set_option maxRecDepth 20000 in
theorem gX0_isSteady_X0_hypotenuseBits : GoodIn wsX0_isSteady (va_wsS RX0 84 yX0_hypotenuseBits wsX0_hypotenuseBits) := goodIn_app (goodIn_of _ (by decide +kernel)) ggX0_isSteady_X0_hypotenuseBits
set_option maxRecDepth 20000 in
theorem ggX0_isDoubled_X0_requireTwo : GoodIn wsX0_isDoubled wsX0_requireTwo := goodIn_ca (goodIn_ca (goodIn_r _ [5, 6, 7, 4, 8, 9, 10, 11, 12, 13, 14, 15, 16, 17, 18, 19, 20, 21, 22, 23, 24, 54, 55, 56, 57, 58, 59] (by decide +kernel) (by decide +kernel)) (goodIn_sub (fun _ h => List.mem_cons_of_mem _ (List.mem_append_left _ (List.mem_append_right _ h))) (by decide +kernel))) (goodIn_sub (fun _ h => List.mem_cons_of_mem _ (List.mem_append_right _ h)) (by decide +kernel))
set_option maxRecDepth 20000 in
theorem gX0_isDoubled_X0_requireTwo : GoodIn wsX0_isDoubled (wsV RX0 76 RX0 yX0_requireTwo wsX0_requireTwo) := goodIn_app (goodIn_of _ (by decide +kernel)) ggX0_isDoubled_X0_requireTwo
set_option maxRecDepth 20000 in
theorem ggX0_isDoubled_X0_across : GoodIn wsX0_isDoubled wsX0_across := goodIn_r _ [28, 29, 11, 12, 4, 13, 54, 55, 56, 57, 58, 59] (by decide +kernel) (by decide +kernel)
set_option maxRecDepth 20000 in
theorem gX0_isDoubled_X0_across : GoodIn wsX0_isDoubled (wsV RX0 69 RX0 yX0_across wsX0_across) := goodIn_app (goodIn_of _ (by decide +kernel)) ggX0_isDoubled_X0_across
set_option maxRecDepth 20000 in
theorem ggX0_isDoubled_X0_up : GoodIn wsX0_isDoubled wsX0_up := goodIn_r _ [33, 34, 11, 12, 4, 13, 54, 55, 56, 57, 58, 59] (by decide +kernel) (by decide +kernel)
set_option maxRecDepth 20000 in
theorem gX0_isDoubled_X0_up : GoodIn wsX0_isDoubled (wsV RX0 73 RX0 yX0_up wsX0_up) := goodIn_app (goodIn_of _ (by decide +kernel)) ggX0_isDoubled_X0_up
set_option maxRecDepth 20000 in
theorem ggX0_isDoubled_X0_hypotenuseBits : GoodIn wsX0_isDoubled wsX0_hypotenuseBits := goodIn_r _ [37, 38, 39, 4, 40, 41, 42, 43, 44, 45, 46, 47, 48, 49, 50] (by decide +kernel) (by decide +kernel)
set_option maxRecDepth 20000 in
theorem gX0_isDoubled_X0_hypotenuseBits : GoodIn wsX0_isDoubled (va_wsS RX0 84 yX0_hypotenuseBits wsX0_hypotenuseBits) := goodIn_app (goodIn_of _ (by decide +kernel)) ggX0_isDoubled_X0_hypotenuseBits
set_option maxRecDepth 20000 in
theorem ggX0_isDoubled_X0_twice : GoodIn wsX0_isDoubled wsX0_twice := goodIn_r _ [53, 44] (by decide +kernel) (by decide +kernel)
set_option maxRecDepth 20000 in
theorem gX0_isDoubled_X0_twice : GoodIn wsX0_isDoubled (va_wsS RX0 88 yX0_twice wsX0_twice) := goodIn_app (goodIn_of _ (by decide +kernel)) ggX0_isDoubled_X0_twice
set_option maxRecDepth 20000 in
theorem ggX0_isClose_X0_requireTwo : GoodIn wsX0_isClose wsX0_requireTwo := goodIn_ca (goodIn_ca (goodIn_r _ [6, 7, 8, 5, 9, 10, 11, 12, 13, 14, 15, 16, 17, 18, 19, 20, 21, 22, 23, 24, 25, 65, 66, 67, 68, 69, 70] (by decide +kernel) (by decide +kernel)) (goodIn_sub (fun _ h => List.mem_cons_of_mem _ (List.mem_append_left _ (List.mem_append_right _ h))) (by decide +kernel))) (goodIn_sub (fun _ h => List.mem_cons_of_mem _ (List.mem_append_right _ h)) (by decide +kernel))
set_option maxRecDepth 20000 in
theorem gX0_isClose_X0_requireTwo : GoodIn wsX0_isClose (wsV RX0 76 RX0 yX0_requireTwo wsX0_requireTwo) := goodIn_app (goodIn_of _ (by decide +kernel)) ggX0_isClose_X0_requireTwo
set_option maxRecDepth 20000 in
theorem ggX0_isClose_X0_across : GoodIn wsX0_isClose wsX0_across := goodIn_r _ [29, 30, 12, 13, 5, 14, 65, 66, 67, 68, 69, 70] (by decide +kernel) (by decide +kernel)
set_option maxRecDepth 20000 in
theorem gX0_isClose_X0_across : GoodIn wsX0_isClose (wsV RX0 69 RX0 yX0_across wsX0_across) := goodIn_app (goodIn_of _ (by decide +kernel)) ggX0_isClose_X0_across
set_option maxRecDepth 20000 in
theorem ggX0_isClose_X0_up : GoodIn wsX0_isClose wsX0_up := goodIn_r _ [34, 35, 12, 13, 5, 14, 65, 66, 67, 68, 69, 70] (by decide +kernel) (by decide +kernel)
set_option maxRecDepth 20000 in
theorem gX0_isClose_X0_up : GoodIn wsX0_isClose (wsV RX0 73 RX0 yX0_up wsX0_up) := goodIn_app (goodIn_of _ (by decide +kernel)) ggX0_isClose_X0_up
set_option maxRecDepth 20000 in
theorem ggX0_isClose_X0_hypotenuseBits : GoodIn wsX0_isClose wsX0_hypotenuseBits := goodIn_r _ [38, 39, 40, 5, 41, 42, 43, 44, 45, 46, 47, 48, 49, 50, 51] (by decide +kernel) (by decide +kernel)
set_option maxRecDepth 20000 in
theorem gX0_isClose_X0_hypotenuseBits : GoodIn wsX0_isClose (va_wsS RX0 84 yX0_hypotenuseBits wsX0_hypotenuseBits) := goodIn_app (goodIn_of _ (by decide +kernel)) ggX0_isClose_X0_hypotenuseBits
set_option maxRecDepth 20000 in
theorem ggX0_isClose_X0_squareSum : GoodIn wsX0_isClose wsX0_squareSum := goodIn_r _ [41] (by decide +kernel) (by decide +kernel)
set_option maxRecDepth 20000 in
theorem gX0_isClose_X0_squareSum : GoodIn wsX0_isClose (va_wsS RX0 92 yX0_squareSum wsX0_squareSum) := goodIn_app (goodIn_of _ (by decide +kernel)) ggX0_isClose_X0_squareSum
set_option maxRecDepth 20000 in
theorem ggX0_isClose_X0_unitsOf : GoodIn wsX0_isClose wsX0_unitsOf := goodIn_r _ [54, 55, 45] (by decide +kernel) (by decide +kernel)
set_option maxRecDepth 20000 in
theorem gX0_isClose_X0_unitsOf : GoodIn wsX0_isClose (va_wsS RX0 96 yX0_unitsOf wsX0_unitsOf) := goodIn_app (goodIn_of _ (by decide +kernel)) ggX0_isClose_X0_unitsOf
set_option maxRecDepth 20000 in
theorem ggX0_isClose_X0_placesAfterPoint : GoodIn wsX0_isClose wsX0_placesAfterPoint := goodIn_r _ [58] (by decide +kernel) (by decide +kernel)
set_option maxRecDepth 20000 in
theorem gX0_isClose_X0_placesAfterPoint : GoodIn wsX0_isClose (va_wsS RX0 99 yX0_placesAfterPoint wsX0_placesAfterPoint) := goodIn_app (goodIn_of _ (by decide +kernel)) ggX0_isClose_X0_placesAfterPoint
set_option maxRecDepth 20000 in
theorem ggX0_isClose_X0_compareSquare : GoodIn wsX0_isClose wsX0_compareSquare := goodIn_r _ [61, 62, 63, 64] (by decide +kernel) (by decide +kernel)
set_option maxRecDepth 20000 in
theorem gX0_isClose_X0_compareSquare : GoodIn wsX0_isClose (va_wsS RX0 103 yX0_compareSquare wsX0_compareSquare) := goodIn_app (goodIn_of _ (by decide +kernel)) ggX0_isClose_X0_compareSquare
set_option maxRecDepth 20000 in
theorem ggX0_isStraight_X0_requirePeg : GoodIn wsX0_isStraight wsX0_requirePeg := goodIn_ca (goodIn_r _ [4, 5, 6, 7, 8, 3, 9] (by decide +kernel) (by decide +kernel)) (goodIn_sub (fun _ h => List.mem_cons_of_mem _ (List.mem_append_left _ (List.mem_append_right _ h))) (by decide +kernel))
set_option maxRecDepth 20000 in
theorem gX0_isStraight_X0_requirePeg : GoodIn wsX0_isStraight (va_wsS RX0 31 yX0_requirePeg wsX0_requirePeg) := goodIn_app (goodIn_of _ (by decide +kernel)) ggX0_isStraight_X0_requirePeg
set_option maxRecDepth 20000 in
theorem ggX0_isStraight_X0_requireStanding : GoodIn wsX0_isStraight wsX0_requireStanding := goodIn_ca (goodIn_r _ [13, 14, 15, 16, 17, 18, 3, 19, 20, 7, 8, 9, 45, 46, 47, 48, 49, 50] (by decide +kernel) (by decide +kernel)) (goodIn_sub (fun _ h => List.mem_cons_of_mem _ (List.mem_append_right _ h)) (by decide +kernel))
set_option maxRecDepth 20000 in
theorem gX0_isStraight_X0_requireStanding : GoodIn wsX0_isStraight (wsV RX0 53 RX0 yX0_requireStanding wsX0_requireStanding) := goodIn_app (goodIn_of _ (by decide +kernel)) ggX0_isStraight_X0_requireStanding
set_option maxRecDepth 20000 in
theorem ggX0_isStraight_X0_stretchGrains : GoodIn wsX0_isStraight wsX0_stretchGrains := goodIn_r _ [24, 25, 26, 27, 28, 3, 29, 30, 7, 8, 9, 31, 32, 33, 34, 35, 36, 37, 38, 39, 40, 41, 42, 43, 44, 45, 46, 47, 48, 49, 50] (by decide +kernel) (by decide +kernel)
set_option maxRecDepth 20000 in
theorem gX0_isStraight_X0_stretchGrains : GoodIn wsX0_isStraight (wsV RX0 80 RX0 yX0_stretchGrains wsX0_stretchGrains) := goodIn_app (goodIn_of _ (by decide +kernel)) ggX0_isStraight_X0_stretchGrains
set_option maxRecDepth 20000 in
theorem ggX0_nearest_X0_requirePeg : GoodIn wsX0_nearest wsX0_requirePeg := goodIn_ca (goodIn_r _ [6, 7, 8, 9, 10, 5, 11] (by decide +kernel) (by decide +kernel)) (goodIn_sub (fun _ h => List.mem_cons_of_mem _ (List.mem_append_left _ (List.mem_append_right _ h))) (by decide +kernel))
set_option maxRecDepth 20000 in
theorem gX0_nearest_X0_requirePeg : GoodIn wsX0_nearest (va_wsS RX0 31 yX0_requirePeg wsX0_requirePeg) := goodIn_app (goodIn_of _ (by decide +kernel)) ggX0_nearest_X0_requirePeg
set_option maxRecDepth 20000 in
theorem ggX0_nearest_X0_requireStanding : GoodIn wsX0_nearest wsX0_requireStanding := goodIn_ca (goodIn_r _ [15, 16, 17, 18, 19, 20, 5, 21, 22, 9, 10, 11, 51, 52, 53, 54, 55, 56] (by decide +kernel) (by decide +kernel)) (goodIn_sub (fun _ h => List.mem_cons_of_mem _ (List.mem_append_right _ h)) (by decide +kernel))
set_option maxRecDepth 20000 in
theorem gX0_nearest_X0_requireStanding : GoodIn wsX0_nearest (wsV RX0 53 RX0 yX0_requireStanding wsX0_requireStanding) := goodIn_app (goodIn_of _ (by decide +kernel)) ggX0_nearest_X0_requireStanding
set_option maxRecDepth 20000 in
theorem ggX0_nearest_X0_nearestOther : GoodIn wsX0_nearest wsX0_nearestOther := goodIn_r _ [26, 18, 19, 20, 5, 21, 22, 9, 10, 11, 27, 28, 29, 30, 31, 32, 33, 34, 35, 36, 37, 38, 39, 40, 41, 42, 43, 44, 45, 46, 47, 48, 49, 50, 51, 52, 53, 54, 55, 56] (by decide +kernel) (by decide +kernel)
set_option maxRecDepth 20000 in
theorem gX0_nearest_X0_nearestOther : GoodIn wsX0_nearest (wsV RX0 107 RX0 yX0_nearestOther wsX0_nearestOther) := goodIn_app (goodIn_of _ (by decide +kernel)) ggX0_nearest_X0_nearestOther
set_option maxRecDepth 20000 in
theorem ggX0_rank_X0_requireTwo : GoodIn wsX0_rank wsX0_requireTwo := goodIn_ca (goodIn_ca (goodIn_r _ [5, 6, 7, 4, 8, 9, 10, 11, 12, 13, 14, 15, 16, 17, 18, 19, 20, 21, 22, 23, 24, 49, 50, 51, 52, 53, 54] (by decide +kernel) (by decide +kernel)) (goodIn_sub (fun _ h => List.mem_cons_of_mem _ (List.mem_append_left _ (List.mem_append_right _ h))) (by decide +kernel))) (goodIn_sub (fun _ h => List.mem_cons_of_mem _ (List.mem_append_right _ h)) (by decide +kernel))
set_option maxRecDepth 20000 in
theorem gX0_rank_X0_requireTwo : GoodIn wsX0_rank (wsV RX0 76 RX0 yX0_requireTwo wsX0_requireTwo) := goodIn_app (goodIn_of _ (by decide +kernel)) ggX0_rank_X0_requireTwo
end
section
set_option maxRecDepth 20000 in
theorem ggX0_rank_X0_stretchGrains : GoodIn wsX0_rank wsX0_stretchGrains := goodIn_r _ [28, 29, 30, 31, 32, 4, 33, 34, 11, 12, 13, 35, 36, 37, 38, 39, 40, 41, 42, 43, 44, 45, 46, 47, 48, 49, 50, 51, 52, 53, 54] (by decide +kernel) (by decide +kernel)
set_option maxRecDepth 20000 in
theorem gX0_rank_X0_stretchGrains : GoodIn wsX0_rank (wsV RX0 80 RX0 yX0_stretchGrains wsX0_stretchGrains) := goodIn_app (goodIn_of _ (by decide +kernel)) ggX0_rank_X0_stretchGrains
set_option maxRecDepth 20000 in
theorem ggX0_rank_X0_stands : GoodIn wsX0_rank wsX0_stands := goodIn_r _ [23, 24, 11, 12, 4, 13, 49, 50, 51, 52, 53, 54] (by decide +kernel) (by decide +kernel)
set_option maxRecDepth 20000 in
theorem gX0_rank_X0_stands : GoodIn wsX0_rank (wsV RX0 46 RX0 yX0_stands wsX0_stands) := goodIn_app (goodIn_of _ (by decide +kernel)) ggX0_rank_X0_stands
set_option maxRecDepth 20000 in
theorem ggX0_isIn_X0_requireTwo : GoodIn wsX0_isIn wsX0_requireTwo := goodIn_ca (goodIn_ca (goodIn_r _ [5, 6, 7, 4, 8, 9, 10, 11, 12, 13, 14, 15, 16, 17, 18, 19, 20, 21, 22, 23, 24, 60, 61, 62, 63, 64, 65] (by decide +kernel) (by decide +kernel)) (goodIn_sub (fun _ h => List.mem_cons_of_mem _ (List.mem_append_left _ (List.mem_append_left _ (List.mem_append_right _ h)))) (by decide +kernel))) (goodIn_sub (fun _ h => List.mem_cons_of_mem _ (List.mem_append_left _ (List.mem_append_right _ h))) (by decide +kernel))
set_option maxRecDepth 20000 in
theorem gX0_isIn_X0_requireTwo : GoodIn wsX0_isIn (wsV RX0 76 RX0 yX0_requireTwo wsX0_requireTwo) := goodIn_app (goodIn_of _ (by decide +kernel)) ggX0_isIn_X0_requireTwo
set_option maxRecDepth 20000 in
theorem ggX0_isIn_X0_requireNumber : GoodIn wsX0_isIn wsX0_requireNumber := goodIn_ca (goodIn_r _ [27, 28, 29, 30, 31, 4, 32] (by decide +kernel) (by decide +kernel)) (goodIn_sub (fun _ h => List.mem_cons_of_mem _ (List.mem_append_right _ h)) (by decide +kernel))
set_option maxRecDepth 20000 in
theorem gX0_isIn_X0_requireNumber : GoodIn wsX0_isIn (va_wsS RX0 112 yX0_requireNumber wsX0_requireNumber) := goodIn_app (goodIn_of _ (by decide +kernel)) ggX0_isIn_X0_requireNumber
set_option maxRecDepth 20000 in
theorem ggX0_isIn_X0_stretchGrains : GoodIn wsX0_isIn wsX0_stretchGrains := goodIn_r _ [36, 37, 38, 39, 40, 4, 41, 42, 11, 12, 13, 43, 44, 45, 46, 47, 48, 49, 50, 51, 52, 53, 54, 55, 56, 60, 61, 62, 63, 64, 65] (by decide +kernel) (by decide +kernel)
set_option maxRecDepth 20000 in
theorem gX0_isIn_X0_stretchGrains : GoodIn wsX0_isIn (wsV RX0 80 RX0 yX0_stretchGrains wsX0_stretchGrains) := goodIn_app (goodIn_of _ (by decide +kernel)) ggX0_isIn_X0_stretchGrains
set_option maxRecDepth 20000 in
theorem ggX0_isIn_X0_sixteenthsOf : GoodIn wsX0_isIn wsX0_sixteenthsOf := goodIn_r _ [59] (by decide +kernel) (by decide +kernel)
set_option maxRecDepth 20000 in
theorem gX0_isIn_X0_sixteenthsOf : GoodIn wsX0_isIn (va_wsS RX0 115 yX0_sixteenthsOf wsX0_sixteenthsOf) := goodIn_app (goodIn_of _ (by decide +kernel)) ggX0_isIn_X0_sixteenthsOf
set_option maxRecDepth 20000 in
theorem ggX0_isIn_X0_grainsOfRoot : GoodIn wsX0_isIn wsX0_grainsOfRoot := goodIn_r _ [53, 54, 55, 4, 56] (by decide +kernel) (by decide +kernel)
set_option maxRecDepth 20000 in
theorem gX0_isIn_X0_grainsOfRoot : GoodIn wsX0_isIn (va_wsS RX0 119 yX0_grainsOfRoot wsX0_grainsOfRoot) := goodIn_app (goodIn_of _ (by decide +kernel)) ggX0_isIn_X0_grainsOfRoot
set_option maxRecDepth 20000 in
theorem ggX0_root_X0_requireNumber : GoodIn wsX0_root wsX0_requireNumber := goodIn_ca (goodIn_r _ [4, 5, 6, 7, 8, 3, 9] (by decide +kernel) (by decide +kernel)) (goodIn_sub (fun _ h => List.mem_cons_of_mem _ (List.mem_append_right _ h)) (by decide +kernel))
set_option maxRecDepth 20000 in
theorem gX0_root_X0_requireNumber : GoodIn wsX0_root (va_wsS RX0 112 yX0_requireNumber wsX0_requireNumber) := goodIn_app (goodIn_of _ (by decide +kernel)) ggX0_root_X0_requireNumber
set_option maxRecDepth 20000 in
theorem ggX0_root_X0_sixteenthsOf : GoodIn wsX0_root wsX0_sixteenthsOf := goodIn_r _ [12] (by decide +kernel) (by decide +kernel)
set_option maxRecDepth 20000 in
theorem gX0_root_X0_sixteenthsOf : GoodIn wsX0_root (va_wsS RX0 115 yX0_sixteenthsOf wsX0_sixteenthsOf) := goodIn_app (goodIn_of _ (by decide +kernel)) ggX0_root_X0_sixteenthsOf
set_option maxRecDepth 20000 in
theorem ggX0_root_X0_bitsOfRoot : GoodIn wsX0_root wsX0_bitsOfRoot := goodIn_r _ [15, 16, 17, 18, 3, 19, 20, 21, 22] (by decide +kernel) (by decide +kernel)
set_option maxRecDepth 20000 in
theorem gX0_root_X0_bitsOfRoot : GoodIn wsX0_root (va_wsS RX0 122 yX0_bitsOfRoot wsX0_bitsOfRoot) := goodIn_app (goodIn_of _ (by decide +kernel)) ggX0_root_X0_bitsOfRoot
set_option maxRecDepth 20000 in
theorem ggX0_root_X0_doubleOf : GoodIn wsX0_root wsX0_doubleOf := goodIn_r _ [25, 26, 27, 3, 28, 29, 30, 31, 32, 16] (by decide +kernel) (by decide +kernel)
set_option maxRecDepth 20000 in
theorem gX0_root_X0_doubleOf : GoodIn wsX0_root (va_wsS RX0 126 yX0_doubleOf wsX0_doubleOf) := goodIn_app (goodIn_of _ (by decide +kernel)) ggX0_root_X0_doubleOf
set_option maxRecDepth 20000 in
theorem ggX0_rootBits_X0_requireNumber : GoodIn wsX0_rootBits wsX0_requireNumber := goodIn_ca (goodIn_r _ [4, 5, 6, 7, 8, 3, 9] (by decide +kernel) (by decide +kernel)) (goodIn_sub (fun _ h => List.mem_cons_of_mem _ (List.mem_append_right _ h)) (by decide +kernel))
set_option maxRecDepth 20000 in
theorem gX0_rootBits_X0_requireNumber : GoodIn wsX0_rootBits (va_wsS RX0 112 yX0_requireNumber wsX0_requireNumber) := goodIn_app (goodIn_of _ (by decide +kernel)) ggX0_rootBits_X0_requireNumber
set_option maxRecDepth 20000 in
theorem ggX0_rootBits_X0_sixteenthsOf : GoodIn wsX0_rootBits wsX0_sixteenthsOf := goodIn_r _ [12] (by decide +kernel) (by decide +kernel)
set_option maxRecDepth 20000 in
theorem gX0_rootBits_X0_sixteenthsOf : GoodIn wsX0_rootBits (va_wsS RX0 115 yX0_sixteenthsOf wsX0_sixteenthsOf) := goodIn_app (goodIn_of _ (by decide +kernel)) ggX0_rootBits_X0_sixteenthsOf
set_option maxRecDepth 20000 in
theorem ggX0_rootBits_X0_bitsOfRoot : GoodIn wsX0_rootBits wsX0_bitsOfRoot := goodIn_r _ [15, 16, 17, 18, 3, 19, 20, 21, 22] (by decide +kernel) (by decide +kernel)
set_option maxRecDepth 20000 in
theorem gX0_rootBits_X0_bitsOfRoot : GoodIn wsX0_rootBits (va_wsS RX0 122 yX0_bitsOfRoot wsX0_bitsOfRoot) := goodIn_app (goodIn_of _ (by decide +kernel)) ggX0_rootBits_X0_bitsOfRoot
set_option maxRecDepth 20000 in
theorem ggX0_rootGrains_X0_requireNumber : GoodIn wsX0_rootGrains wsX0_requireNumber := goodIn_ca (goodIn_r _ [4, 5, 6, 7, 8, 3, 9] (by decide +kernel) (by decide +kernel)) (goodIn_sub (fun _ h => List.mem_cons_of_mem _ (List.mem_append_right _ h)) (by decide +kernel))
set_option maxRecDepth 20000 in
theorem gX0_rootGrains_X0_requireNumber : GoodIn wsX0_rootGrains (va_wsS RX0 112 yX0_requireNumber wsX0_requireNumber) := goodIn_app (goodIn_of _ (by decide +kernel)) ggX0_rootGrains_X0_requireNumber
set_option maxRecDepth 20000 in
theorem ggX0_rootGrains_X0_sixteenthsOf : GoodIn wsX0_rootGrains wsX0_sixteenthsOf := goodIn_r _ [12] (by decide +kernel) (by decide +kernel)
set_option maxRecDepth 20000 in
theorem gX0_rootGrains_X0_sixteenthsOf : GoodIn wsX0_rootGrains (va_wsS RX0 115 yX0_sixteenthsOf wsX0_sixteenthsOf) := goodIn_app (goodIn_of _ (by decide +kernel)) ggX0_rootGrains_X0_sixteenthsOf
set_option maxRecDepth 20000 in
theorem ggX0_rootGrains_X0_grainsOfRoot : GoodIn wsX0_rootGrains wsX0_grainsOfRoot := goodIn_r _ [15, 16, 17, 3, 18] (by decide +kernel) (by decide +kernel)
set_option maxRecDepth 20000 in
theorem gX0_rootGrains_X0_grainsOfRoot : GoodIn wsX0_rootGrains (va_wsS RX0 119 yX0_grainsOfRoot wsX0_grainsOfRoot) := goodIn_app (goodIn_of _ (by decide +kernel)) ggX0_rootGrains_X0_grainsOfRoot
set_option maxRecDepth 20000 in
theorem ggX0_wholeRoot_X0_requireNumber : GoodIn wsX0_wholeRoot wsX0_requireNumber := goodIn_ca (goodIn_r _ [4, 5, 6, 7, 8, 3, 9] (by decide +kernel) (by decide +kernel)) (goodIn_sub (fun _ h => List.mem_cons_of_mem _ (List.mem_append_right _ h)) (by decide +kernel))
set_option maxRecDepth 20000 in
theorem gX0_wholeRoot_X0_requireNumber : GoodIn wsX0_wholeRoot (va_wsS RX0 112 yX0_requireNumber wsX0_requireNumber) := goodIn_app (goodIn_of _ (by decide +kernel)) ggX0_wholeRoot_X0_requireNumber
set_option maxRecDepth 20000 in
theorem ggX0_wholeRoot_X0_wholePart : GoodIn wsX0_wholeRoot wsX0_wholePart := goodIn_r _ [12, 13, 14, 3, 15] (by decide +kernel) (by decide +kernel)
set_option maxRecDepth 20000 in
theorem gX0_wholeRoot_X0_wholePart : GoodIn wsX0_wholeRoot (va_wsS RX0 130 yX0_wholePart wsX0_wholePart) := goodIn_app (goodIn_of _ (by decide +kernel)) ggX0_wholeRoot_X0_wholePart
set_option maxRecDepth 20000 in
theorem ggX0_isNearest_X0_requireNumber : GoodIn wsX0_isNearest wsX0_requireNumber := goodIn_ca (goodIn_r _ [5, 6, 7, 8, 9, 4, 10] (by decide +kernel) (by decide +kernel)) (goodIn_sub (fun _ h => List.mem_cons_of_mem _ (List.mem_append_right _ h)) (by decide +kernel))
set_option maxRecDepth 20000 in
theorem gX0_isNearest_X0_requireNumber : GoodIn wsX0_isNearest (va_wsS RX0 112 yX0_requireNumber wsX0_requireNumber) := goodIn_app (goodIn_of _ (by decide +kernel)) ggX0_isNearest_X0_requireNumber
set_option maxRecDepth 20000 in
theorem ggX0_isNearest_X0_sixteenthsOf : GoodIn wsX0_isNearest wsX0_sixteenthsOf := goodIn_r _ [13] (by decide +kernel) (by decide +kernel)
set_option maxRecDepth 20000 in
theorem gX0_isNearest_X0_sixteenthsOf : GoodIn wsX0_isNearest (va_wsS RX0 115 yX0_sixteenthsOf wsX0_sixteenthsOf) := goodIn_app (goodIn_of _ (by decide +kernel)) ggX0_isNearest_X0_sixteenthsOf
set_option maxRecDepth 20000 in
theorem ggX0_isNearest_X0_bitsOfRoot : GoodIn wsX0_isNearest wsX0_bitsOfRoot := goodIn_r _ [16, 17, 18, 19, 4, 20, 21, 22, 23] (by decide +kernel) (by decide +kernel)
set_option maxRecDepth 20000 in
theorem gX0_isNearest_X0_bitsOfRoot : GoodIn wsX0_isNearest (va_wsS RX0 122 yX0_bitsOfRoot wsX0_bitsOfRoot) := goodIn_app (goodIn_of _ (by decide +kernel)) ggX0_isNearest_X0_bitsOfRoot
set_option maxRecDepth 20000 in
theorem ggX0_isNearest_X0_unitsOf : GoodIn wsX0_isNearest wsX0_unitsOf := goodIn_r _ [26, 27, 17] (by decide +kernel) (by decide +kernel)
set_option maxRecDepth 20000 in
theorem gX0_isNearest_X0_unitsOf : GoodIn wsX0_isNearest (va_wsS RX0 96 yX0_unitsOf wsX0_unitsOf) := goodIn_app (goodIn_of _ (by decide +kernel)) ggX0_isNearest_X0_unitsOf
set_option maxRecDepth 20000 in
theorem ggX0_isNearest_X0_placesAfterPoint : GoodIn wsX0_isNearest wsX0_placesAfterPoint := goodIn_r _ [30] (by decide +kernel) (by decide +kernel)
set_option maxRecDepth 20000 in
theorem gX0_isNearest_X0_placesAfterPoint : GoodIn wsX0_isNearest (va_wsS RX0 99 yX0_placesAfterPoint wsX0_placesAfterPoint) := goodIn_app (goodIn_of _ (by decide +kernel)) ggX0_isNearest_X0_placesAfterPoint
set_option maxRecDepth 20000 in
theorem ggX0_isNearest_X0_compareSquare : GoodIn wsX0_isNearest wsX0_compareSquare := goodIn_r _ [33, 34, 1, 35] (by decide +kernel) (by decide +kernel)
set_option maxRecDepth 20000 in
theorem gX0_isNearest_X0_compareSquare : GoodIn wsX0_isNearest (va_wsS RX0 103 yX0_compareSquare wsX0_compareSquare) := goodIn_app (goodIn_of _ (by decide +kernel)) ggX0_isNearest_X0_compareSquare
set_option maxRecDepth 20000 in
theorem ggX0_isHalved_X0_requireNumber : GoodIn wsX0_isHalved wsX0_requireNumber := goodIn_ca (goodIn_r _ [4, 5, 6, 7, 8, 3, 9] (by decide +kernel) (by decide +kernel)) (goodIn_sub (fun _ h => List.mem_cons_of_mem _ (List.mem_append_right _ h)) (by decide +kernel))
set_option maxRecDepth 20000 in
theorem gX0_isHalved_X0_requireNumber : GoodIn wsX0_isHalved (va_wsS RX0 112 yX0_requireNumber wsX0_requireNumber) := goodIn_app (goodIn_of _ (by decide +kernel)) ggX0_isHalved_X0_requireNumber
set_option maxRecDepth 20000 in
theorem ggX0_isHalved_X0_sixteenthsOf : GoodIn wsX0_isHalved wsX0_sixteenthsOf := goodIn_r _ [12] (by decide +kernel) (by decide +kernel)
set_option maxRecDepth 20000 in
theorem gX0_isHalved_X0_sixteenthsOf : GoodIn wsX0_isHalved (va_wsS RX0 115 yX0_sixteenthsOf wsX0_sixteenthsOf) := goodIn_app (goodIn_of _ (by decide +kernel)) ggX0_isHalved_X0_sixteenthsOf
set_option maxRecDepth 20000 in
theorem ggX0_isHalved_X0_bitsOfRoot : GoodIn wsX0_isHalved wsX0_bitsOfRoot := goodIn_r _ [15, 16, 17, 18, 3, 19, 20, 21, 22] (by decide +kernel) (by decide +kernel)
set_option maxRecDepth 20000 in
theorem gX0_isHalved_X0_bitsOfRoot : GoodIn wsX0_isHalved (va_wsS RX0 122 yX0_bitsOfRoot wsX0_bitsOfRoot) := goodIn_app (goodIn_of _ (by decide +kernel)) ggX0_isHalved_X0_bitsOfRoot
set_option maxRecDepth 20000 in
theorem ggX0_isHalved_X0_twice : GoodIn wsX0_isHalved wsX0_twice := goodIn_r _ [25, 16] (by decide +kernel) (by decide +kernel)
set_option maxRecDepth 20000 in
theorem gX0_isHalved_X0_twice : GoodIn wsX0_isHalved (va_wsS RX0 88 yX0_twice wsX0_twice) := goodIn_app (goodIn_of _ (by decide +kernel)) ggX0_isHalved_X0_twice
set_option maxRecDepth 20000 in
theorem ggX0_between_X0_requireNumber : GoodIn wsX0_between wsX0_requireNumber := goodIn_ca (goodIn_r _ [4, 5, 6, 7, 8, 3, 9] (by decide +kernel) (by decide +kernel)) (goodIn_sub (fun _ h => List.mem_cons_of_mem _ (List.mem_append_right _ h)) (by decide +kernel))
set_option maxRecDepth 20000 in
theorem gX0_between_X0_requireNumber : GoodIn wsX0_between (va_wsS RX0 112 yX0_requireNumber wsX0_requireNumber) := goodIn_app (goodIn_of _ (by decide +kernel)) ggX0_between_X0_requireNumber
set_option maxRecDepth 20000 in
theorem ggX0_between_X0_wholePart : GoodIn wsX0_between wsX0_wholePart := goodIn_r _ [12, 13, 14, 3, 15] (by decide +kernel) (by decide +kernel)
set_option maxRecDepth 20000 in
theorem gX0_between_X0_wholePart : GoodIn wsX0_between (va_wsS RX0 130 yX0_wholePart wsX0_wholePart) := goodIn_app (goodIn_of _ (by decide +kernel)) ggX0_between_X0_wholePart
set_option maxRecDepth 20000 in
theorem ggX0_join_X0_requirePeg : GoodIn wsX0_join wsX0_requirePeg := goodIn_ca (goodIn_r _ [8, 9, 10, 11, 12, 7, 13] (by decide +kernel) (by decide +kernel)) (goodIn_sub (fun _ h => List.mem_cons_of_mem _ (List.mem_append_left _ (List.mem_append_right _ h))) (by decide +kernel))
set_option maxRecDepth 20000 in
theorem gX0_join_X0_requirePeg : GoodIn wsX0_join (va_wsS RX0 31 yX0_requirePeg wsX0_requirePeg) := goodIn_app (goodIn_of _ (by decide +kernel)) ggX0_join_X0_requirePeg
set_option maxRecDepth 20000 in
theorem ggX0_join_X0_requireStanding : GoodIn wsX0_join wsX0_requireStanding := goodIn_ca (goodIn_r _ [17, 18, 19, 20, 21, 22, 7, 23, 24, 11, 12, 13, 25, 26, 27, 28, 29, 30] (by decide +kernel) (by decide +kernel)) (goodIn_sub (fun _ h => List.mem_cons_of_mem _ (List.mem_append_right _ h)) (by decide +kernel))
set_option maxRecDepth 20000 in
theorem gX0_join_X0_requireStanding : GoodIn wsX0_join (wsV RX0 53 RX0 yX0_requireStanding wsX0_requireStanding) := goodIn_app (goodIn_of _ (by decide +kernel)) ggX0_join_X0_requireStanding
set_option maxRecDepth 20000 in
theorem ggX0_unjoin_X0_pegInRing : GoodIn wsX0_unjoin wsX0_pegInRing := goodIn_r _ [8, 9, 10, 11, 12, 13, 14, 15] (by decide +kernel) (by decide +kernel)
set_option maxRecDepth 20000 in
theorem gX0_unjoin_X0_pegInRing : GoodIn wsX0_unjoin (wsV RX0 139 RX0 yX0_pegInRing wsX0_pegInRing) := goodIn_app (goodIn_of _ (by decide +kernel)) ggX0_unjoin_X0_pegInRing
set_option maxRecDepth 20000 in
theorem ggX0_ringAt_X0_pegInRing : GoodIn wsX0_ringAt wsX0_pegInRing := goodIn_r _ [8, 9, 10, 11, 12, 13, 14, 15] (by decide +kernel) (by decide +kernel)
set_option maxRecDepth 20000 in
theorem gX0_ringAt_X0_pegInRing : GoodIn wsX0_ringAt (wsV RX0 139 RX0 yX0_pegInRing wsX0_pegInRing) := goodIn_app (goodIn_of _ (by decide +kernel)) ggX0_ringAt_X0_pegInRing
set_option maxRecDepth 20000 in
theorem ggX0_around_X0_pegInRing : GoodIn wsX0_around wsX0_pegInRing := goodIn_r _ [6, 7, 39, 40, 41, 42, 43, 44] (by decide +kernel) (by decide +kernel)
set_option maxRecDepth 20000 in
theorem gX0_around_X0_pegInRing : GoodIn wsX0_around (wsV RX0 139 RX0 yX0_pegInRing wsX0_pegInRing) := goodIn_app (goodIn_of _ (by decide +kernel)) ggX0_around_X0_pegInRing
set_option maxRecDepth 20000 in
theorem ggX0_around_X0_placeAfter : GoodIn wsX0_around wsX0_placeAfter := goodIn_r _ [11, 1, 39, 40, 41, 42, 43, 44] (by decide +kernel) (by decide +kernel)
set_option maxRecDepth 20000 in
theorem gX0_around_X0_placeAfter : GoodIn wsX0_around (wsV RX0 147 RX0 yX0_placeAfter wsX0_placeAfter) := goodIn_app (goodIn_of _ (by decide +kernel)) ggX0_around_X0_placeAfter
set_option maxRecDepth 20000 in
theorem ggX0_around_X0_stretchGrains : GoodIn wsX0_around wsX0_stretchGrains := goodIn_r _ [15, 16, 17, 18, 19, 5, 20, 21, 22, 23, 24, 25, 26, 27, 28, 29, 30, 31, 32, 33, 34, 35, 36, 37, 38, 39, 40, 41, 42, 43, 44] (by decide +kernel) (by decide +kernel)
set_option maxRecDepth 20000 in
theorem gX0_around_X0_stretchGrains : GoodIn wsX0_around (wsV RX0 80 RX0 yX0_stretchGrains wsX0_stretchGrains) := goodIn_app (goodIn_of _ (by decide +kernel)) ggX0_around_X0_stretchGrains
set_option maxRecDepth 20000 in
theorem ggX0_doubleArea_X0_pegInRing : GoodIn wsX0_doubleArea wsX0_pegInRing := goodIn_r _ [6, 7, 25, 26, 27, 28, 29, 30] (by decide +kernel) (by decide +kernel)
set_option maxRecDepth 20000 in
theorem gX0_doubleArea_X0_pegInRing : GoodIn wsX0_doubleArea (wsV RX0 139 RX0 yX0_pegInRing wsX0_pegInRing) := goodIn_app (goodIn_of _ (by decide +kernel)) ggX0_doubleArea_X0_pegInRing
set_option maxRecDepth 20000 in
theorem ggX0_doubleArea_X0_placeAfter : GoodIn wsX0_doubleArea wsX0_placeAfter := goodIn_r _ [11, 1, 25, 26, 27, 28, 29, 30] (by decide +kernel) (by decide +kernel)
set_option maxRecDepth 20000 in
theorem gX0_doubleArea_X0_placeAfter : GoodIn wsX0_doubleArea (wsV RX0 147 RX0 yX0_placeAfter wsX0_placeAfter) := goodIn_app (goodIn_of _ (by decide +kernel)) ggX0_doubleArea_X0_placeAfter
set_option maxRecDepth 20000 in
theorem ggX0_doubleArea_X0_across : GoodIn wsX0_doubleArea wsX0_across := goodIn_r _ [15, 16, 17, 18, 5, 19, 25, 26, 27, 28, 29, 30] (by decide +kernel) (by decide +kernel)
set_option maxRecDepth 20000 in
theorem gX0_doubleArea_X0_across : GoodIn wsX0_doubleArea (wsV RX0 69 RX0 yX0_across wsX0_across) := goodIn_app (goodIn_of _ (by decide +kernel)) ggX0_doubleArea_X0_across
set_option maxRecDepth 20000 in
theorem ggX0_doubleArea_X0_up : GoodIn wsX0_doubleArea wsX0_up := goodIn_r _ [23, 24, 17, 18, 5, 19, 25, 26, 27, 28, 29, 30] (by decide +kernel) (by decide +kernel)
set_option maxRecDepth 20000 in
theorem gX0_doubleArea_X0_up : GoodIn wsX0_doubleArea (wsV RX0 73 RX0 yX0_up wsX0_up) := goodIn_app (goodIn_of _ (by decide +kernel)) ggX0_doubleArea_X0_up
set_option maxRecDepth 20000 in
theorem ggX0_sideBits_X0_doubleArea : GoodIn wsX0_sideBits wsX0_doubleArea := goodIn_r _ [11, 12, 13, 14, 15, 10, 16, 17, 18, 19, 20, 21, 22, 23, 24, 25, 26, 27, 28, 29, 30, 31, 32, 33, 34, 51, 52, 53, 54, 55, 56] (by decide +kernel) (by decide +kernel)
set_option maxRecDepth 20000 in
theorem gX0_sideBits_X0_doubleArea : GoodIn wsX0_sideBits (wsV RX0 150 RX0 yX0_doubleArea wsX0_doubleArea) := goodIn_app (goodIn_of _ (by decide +kernel)) ggX0_sideBits_X0_doubleArea
set_option maxRecDepth 20000 in
theorem ggX0_sideBits_X0_isNumber : GoodIn wsX0_sideBits wsX0_isNumber := goodIn_r _ [37] (by decide +kernel) (by decide +kernel)
set_option maxRecDepth 20000 in
theorem gX0_sideBits_X0_isNumber : GoodIn wsX0_sideBits (va_wsS RX0 159 yX0_isNumber wsX0_isNumber) := goodIn_app (goodIn_of _ (by decide +kernel)) ggX0_sideBits_X0_isNumber
set_option maxRecDepth 20000 in
theorem ggX0_sideBits_X0_sixteenthsOf : GoodIn wsX0_sideBits wsX0_sixteenthsOf := goodIn_r _ [40] (by decide +kernel) (by decide +kernel)
set_option maxRecDepth 20000 in
theorem gX0_sideBits_X0_sixteenthsOf : GoodIn wsX0_sideBits (va_wsS RX0 115 yX0_sixteenthsOf wsX0_sixteenthsOf) := goodIn_app (goodIn_of _ (by decide +kernel)) ggX0_sideBits_X0_sixteenthsOf
set_option maxRecDepth 20000 in
theorem ggX0_sideBits_X0_bitsOfRoot : GoodIn wsX0_sideBits wsX0_bitsOfRoot := goodIn_r _ [43, 44, 45, 46, 10, 47, 48, 49, 50] (by decide +kernel) (by decide +kernel)
set_option maxRecDepth 20000 in
theorem gX0_sideBits_X0_bitsOfRoot : GoodIn wsX0_sideBits (va_wsS RX0 122 yX0_bitsOfRoot wsX0_bitsOfRoot) := goodIn_app (goodIn_of _ (by decide +kernel)) ggX0_sideBits_X0_bitsOfRoot
set_option maxRecDepth 20000 in
theorem ggX0_checksum_X0_stands : GoodIn wsX0_checksum wsX0_stands := goodIn_r _ [9, 10, 11, 12, 8, 13, 54, 55, 56, 57, 58, 59] (by decide +kernel) (by decide +kernel)
set_option maxRecDepth 20000 in
theorem gX0_checksum_X0_stands : GoodIn wsX0_checksum (wsV RX0 46 RX0 yX0_stands wsX0_stands) := goodIn_app (goodIn_of _ (by decide +kernel)) ggX0_checksum_X0_stands
end
section
set_option maxRecDepth 20000 in
theorem ggX0_checksum_X0_up : GoodIn wsX0_checksum wsX0_up := goodIn_r _ [17, 18, 11, 12, 8, 13, 54, 55, 56, 57, 58, 59] (by decide +kernel) (by decide +kernel)
set_option maxRecDepth 20000 in
theorem gX0_checksum_X0_up : GoodIn wsX0_checksum (wsV RX0 73 RX0 yX0_up wsX0_up) := goodIn_app (goodIn_of _ (by decide +kernel)) ggX0_checksum_X0_up
set_option maxRecDepth 20000 in
theorem ggX0_checksum_X0_across : GoodIn wsX0_checksum wsX0_across := goodIn_r _ [22, 23, 11, 12, 8, 13, 54, 55, 56, 57, 58, 59] (by decide +kernel) (by decide +kernel)
set_option maxRecDepth 20000 in
theorem gX0_checksum_X0_across : GoodIn wsX0_checksum (wsV RX0 69 RX0 yX0_across wsX0_across) := goodIn_app (goodIn_of _ (by decide +kernel)) ggX0_checksum_X0_across
set_option maxRecDepth 20000 in
theorem ggX0_checksum_X0_nearestOther : GoodIn wsX0_checksum wsX0_nearestOther := goodIn_r _ [27, 5, 6, 7, 8, 9, 10, 11, 12, 13, 28, 29, 30, 31, 4, 19, 20, 21, 22, 23, 14, 15, 16, 17, 18, 32, 33, 34, 35, 36, 37, 38, 39, 40, 54, 55, 56, 57, 58, 59] (by decide +kernel) (by decide +kernel)
set_option maxRecDepth 20000 in
theorem gX0_checksum_X0_nearestOther : GoodIn wsX0_checksum (wsV RX0 107 RX0 yX0_nearestOther wsX0_nearestOther) := goodIn_app (goodIn_of _ (by decide +kernel)) ggX0_checksum_X0_nearestOther
set_option maxRecDepth 20000 in
theorem ggX0_checksum_X0_pegInRing : GoodIn wsX0_checksum wsX0_pegInRing := goodIn_r _ [44, 45, 54, 55, 56, 57, 58, 59] (by decide +kernel) (by decide +kernel)
set_option maxRecDepth 20000 in
theorem gX0_checksum_X0_pegInRing : GoodIn wsX0_checksum (wsV RX0 139 RX0 yX0_pegInRing wsX0_pegInRing) := goodIn_app (goodIn_of _ (by decide +kernel)) ggX0_checksum_X0_pegInRing
set_option maxRecDepth 20000 in
theorem ggX0_checksum_X0_around : GoodIn wsX0_checksum wsX0_around := goodIn_r _ [49, 3, 41, 42, 43, 8, 44, 45, 50, 51, 52, 53, 28, 29, 30, 31, 4, 19, 20, 21, 22, 23, 11, 12, 13, 14, 15, 16, 17, 18, 32, 33, 34, 35, 36, 37, 38, 39, 40, 54, 55, 56, 57, 58, 59] (by decide +kernel) (by decide +kernel)
set_option maxRecDepth 20000 in
theorem gX0_checksum_X0_around : GoodIn wsX0_checksum (wsV RX0 168 RX0 yX0_around wsX0_around) := goodIn_app (goodIn_of _ (by decide +kernel)) ggX0_checksum_X0_around
set_option maxRecDepth 20000 in
theorem ggX0_isSound_X0_arePairsSound : GoodIn wsX0_isSound wsX0_arePairsSound := goodIn_ca (goodIn_ca (goodIn_r _ [5, 6, 7, 8, 4, 9, 10, 11, 12, 13, 14, 15, 16, 17, 18, 19, 20, 21, 22, 23, 24, 25, 26, 27, 28, 29, 30, 31, 32, 33, 34, 35, 36, 37, 38, 39, 40, 41, 42, 43, 44, 45, 46, 47, 48, 49, 50, 51, 52, 53, 54, 55, 56, 57, 58, 59, 60, 61, 62, 63, 64, 65, 66, 67, 68, 69, 70, 71, 72, 73, 74, 75, 76, 77, 78, 79, 80, 81, 82, 83, 155, 156, 157, 158, 159, 160] (by decide +kernel) (by decide +kernel)) (goodIn_sub (fun _ h => List.mem_cons_of_mem _ (List.mem_append_left _ (List.mem_append_left _ (List.mem_append_right _ h)))) (by decide +kernel))) (goodIn_sub (fun _ h => List.mem_cons_of_mem _ (List.mem_append_left _ (List.mem_append_right _ h))) (by decide +kernel))
set_option maxRecDepth 20000 in
theorem gX0_isSound_X0_arePairsSound : GoodIn wsX0_isSound (wsV RX0 171 RX0 yX0_arePairsSound wsX0_arePairsSound) := goodIn_app (goodIn_of _ (by decide +kernel)) ggX0_isSound_X0_arePairsSound
set_option maxRecDepth 20000 in
theorem ggX0_isSound_X0_areThreesSound : GoodIn wsX0_isSound wsX0_areThreesSound := goodIn_ca (goodIn_ca (goodIn_r _ [87, 6, 7, 8, 4, 9, 10, 11, 12, 13, 88, 89, 90, 91, 92, 93, 94, 95, 23, 24, 25, 26, 27, 28, 29, 30, 31, 32, 33, 96, 97, 98, 99, 18, 34, 35, 36, 37, 38, 39, 40, 41, 42, 43, 47, 48, 49, 100, 101, 102, 57, 58, 59, 155, 156, 157, 158, 159, 160] (by decide +kernel) (by decide +kernel)) (goodIn_sub (fun _ h => List.mem_cons_of_mem _ (List.mem_append_left _ (List.mem_append_left _ (List.mem_append_right _ h)))) (by decide +kernel))) (goodIn_sub (fun _ h => List.mem_cons_of_mem _ (List.mem_append_left _ (List.mem_append_right _ h))) (by decide +kernel))
set_option maxRecDepth 20000 in
theorem gX0_isSound_X0_areThreesSound : GoodIn wsX0_isSound (wsV RX0 175 RX0 yX0_areThreesSound wsX0_areThreesSound) := goodIn_app (goodIn_of _ (by decide +kernel)) ggX0_isSound_X0_areThreesSound
set_option maxRecDepth 20000 in
theorem ggX0_isSound_X0_isAreaSound : GoodIn wsX0_isSound wsX0_isAreaSound := goodIn_ca (goodIn_r _ [106, 107, 108, 109, 110, 111, 112, 113, 4, 114, 115, 116, 117, 118, 119, 120, 121, 122, 123, 124, 34, 35, 36, 37, 38, 11, 12, 13, 39, 40, 41, 42, 43, 125, 126, 127, 128, 129, 130, 131, 132, 133, 134, 135, 82, 136, 137, 138, 139, 140, 141, 142, 143, 50, 51, 52, 53, 54, 55, 56, 57, 58, 59, 71, 72, 73, 74, 75, 76, 77, 78, 79, 80, 81, 83, 144, 145, 146, 147, 64, 65, 66, 148, 149, 150, 151, 152, 153, 154, 155, 156, 157, 158, 159, 160] (by decide +kernel) (by decide +kernel)) (goodIn_sub (fun _ h => List.mem_cons_of_mem _ (List.mem_append_right _ h)) (by decide +kernel))
set_option maxRecDepth 20000 in
theorem gX0_isSound_X0_isAreaSound : GoodIn wsX0_isSound (wsV RX0 178 RX0 yX0_isAreaSound wsX0_isAreaSound) := goodIn_app (goodIn_of _ (by decide +kernel)) ggX0_isSound_X0_isAreaSound
set_option maxRecDepth 20000 in
theorem ggX0_arePairsSound_X0_stands : GoodIn wsX0_arePairsSound wsX0_stands := goodIn_r _ [5, 6, 7, 8, 4, 9, 80, 81, 82, 83, 84, 85] (by decide +kernel) (by decide +kernel)
set_option maxRecDepth 20000 in
theorem gX0_arePairsSound_X0_stands : GoodIn wsX0_arePairsSound (wsV RX0 46 RX0 yX0_stands wsX0_stands) := goodIn_app (goodIn_of _ (by decide +kernel)) ggX0_arePairsSound_X0_stands
set_option maxRecDepth 20000 in
theorem ggX0_arePairsSound_X0_isSteady : GoodIn wsX0_arePairsSound wsX0_isSteady := goodIn_ca (goodIn_ca (goodIn_r _ [13, 14, 15, 16, 17, 4, 18, 19, 20, 21, 22, 23, 7, 8, 9, 24, 25, 26, 27, 28, 29, 1, 2, 3, 5, 6, 30, 31, 32, 33, 34, 35, 36, 37, 38, 39, 40, 41, 42, 43, 44, 45, 46, 47, 48, 49, 50, 51, 52, 53, 54, 55, 80, 81, 82, 83, 84, 85] (by decide +kernel) (by decide +kernel)) (goodIn_sub (fun _ h => List.mem_cons_of_mem _ (List.mem_append_left _ (List.mem_append_right _ h))) (by decide +kernel))) (goodIn_sub (fun _ h => List.mem_cons_of_mem _ (List.mem_append_right _ h)) (by decide +kernel))
set_option maxRecDepth 20000 in
theorem gX0_arePairsSound_X0_isSteady : GoodIn wsX0_arePairsSound (wsV RX0 181 RX0 yX0_isSteady wsX0_isSteady) := goodIn_app (goodIn_of _ (by decide +kernel)) ggX0_arePairsSound_X0_isSteady
set_option maxRecDepth 20000 in
theorem ggX0_arePairsSound_X0_isDoubled : GoodIn wsX0_arePairsSound wsX0_isDoubled := goodIn_ca (goodIn_ca (goodIn_r _ [59, 15, 16, 17, 4, 18, 19, 20, 21, 22, 23, 7, 8, 9, 24, 25, 26, 27, 28, 29, 1, 2, 3, 5, 6, 30, 31, 32, 33, 34, 35, 36, 37, 38, 39, 40, 41, 42, 43, 44, 45, 46, 47, 48, 49, 50, 51, 52, 53, 54, 55, 60, 61, 62, 80, 81, 82, 83, 84, 85] (by decide +kernel) (by decide +kernel)) (goodIn_sub (fun _ h => List.mem_cons_of_mem _ (List.mem_append_left _ (List.mem_append_right _ h))) (by decide +kernel))) (goodIn_sub (fun _ h => List.mem_cons_of_mem _ (List.mem_append_right _ h)) (by decide +kernel))
set_option maxRecDepth 20000 in
theorem gX0_arePairsSound_X0_isDoubled : GoodIn wsX0_arePairsSound (wsV RX0 185 RX0 yX0_isDoubled wsX0_isDoubled) := goodIn_app (goodIn_of _ (by decide +kernel)) ggX0_arePairsSound_X0_isDoubled
set_option maxRecDepth 20000 in
theorem ggX0_arePairsSound_X0_isClose : GoodIn wsX0_arePairsSound wsX0_isClose := goodIn_ca (goodIn_ca (goodIn_r _ [66, 14, 15, 16, 17, 4, 18, 19, 20, 21, 22, 23, 7, 8, 9, 24, 25, 26, 27, 28, 29, 1, 2, 3, 5, 6, 30, 31, 32, 33, 34, 35, 36, 37, 38, 39, 40, 41, 42, 43, 44, 45, 46, 47, 48, 49, 50, 51, 52, 53, 54, 55, 67, 68, 69, 70, 71, 72, 73, 74, 75, 76, 77, 78, 79, 80, 81, 82, 83, 84, 85] (by decide +kernel) (by decide +kernel)) (goodIn_sub (fun _ h => List.mem_cons_of_mem _ (List.mem_append_left _ (List.mem_append_right _ h))) (by decide +kernel))) (goodIn_sub (fun _ h => List.mem_cons_of_mem _ (List.mem_append_right _ h)) (by decide +kernel))
set_option maxRecDepth 20000 in
theorem gX0_arePairsSound_X0_isClose : GoodIn wsX0_arePairsSound (wsV RX0 188 RX0 yX0_isClose wsX0_isClose) := goodIn_app (goodIn_of _ (by decide +kernel)) ggX0_arePairsSound_X0_isClose
set_option maxRecDepth 20000 in
theorem ggX0_areThreesSound_X0_stands : GoodIn wsX0_areThreesSound wsX0_stands := goodIn_r _ [5, 6, 7, 8, 4, 9, 53, 54, 55, 56, 57, 58] (by decide +kernel) (by decide +kernel)
set_option maxRecDepth 20000 in
theorem gX0_areThreesSound_X0_stands : GoodIn wsX0_areThreesSound (wsV RX0 46 RX0 yX0_stands wsX0_stands) := goodIn_app (goodIn_of _ (by decide +kernel)) ggX0_areThreesSound_X0_stands
set_option maxRecDepth 20000 in
theorem ggX0_areThreesSound_X0_isStraightByAll : GoodIn wsX0_areThreesSound wsX0_isStraightByAll := goodIn_ca (goodIn_ca (goodIn_r _ [13, 1, 2, 3, 4, 5, 6, 7, 8, 9, 14, 15, 16, 17, 18, 19, 20, 21, 22, 23, 24, 25, 26, 27, 28, 29, 30, 31, 32, 33, 34, 35, 36, 37, 38, 39, 40, 41, 42, 43, 44, 45, 46, 47, 48, 49, 50, 51, 52, 53, 54, 55, 56, 57, 58] (by decide +kernel) (by decide +kernel)) (goodIn_sub (fun _ h => List.mem_cons_of_mem _ (List.mem_append_left _ (List.mem_append_right _ h))) (by decide +kernel))) (goodIn_sub (fun _ h => List.mem_cons_of_mem _ (List.mem_append_right _ h)) (by decide +kernel))
set_option maxRecDepth 20000 in
theorem gX0_areThreesSound_X0_isStraightByAll : GoodIn wsX0_areThreesSound (wsV RX0 191 RX0 yX0_isStraightByAll wsX0_isStraightByAll) := goodIn_app (goodIn_of _ (by decide +kernel)) ggX0_areThreesSound_X0_isStraightByAll
set_option maxRecDepth 20000 in
theorem ggX0_isStraightByAll_X0_stands : GoodIn wsX0_isStraightByAll wsX0_stands := goodIn_r _ [5, 6, 7, 8, 4, 9, 49, 50, 51, 52, 53, 54] (by decide +kernel) (by decide +kernel)
set_option maxRecDepth 20000 in
theorem gX0_isStraightByAll_X0_stands : GoodIn wsX0_isStraightByAll (wsV RX0 46 RX0 yX0_stands wsX0_stands) := goodIn_app (goodIn_of _ (by decide +kernel)) ggX0_isStraightByAll_X0_stands
set_option maxRecDepth 20000 in
theorem ggX0_isStraightByAll_X0_isStraight : GoodIn wsX0_isStraightByAll wsX0_isStraight := goodIn_ca (goodIn_ca (goodIn_r _ [13, 14, 15, 4, 16, 17, 18, 7, 8, 9, 19, 20, 21, 22, 23, 24, 1, 2, 3, 5, 6, 25, 26, 27, 28, 29, 30, 31, 32, 33, 34, 35, 36, 37, 38, 39, 40, 41, 42, 43, 44, 45, 46, 47, 48, 49, 50, 51, 52, 53, 54] (by decide +kernel) (by decide +kernel)) (goodIn_sub (fun _ h => List.mem_cons_of_mem _ (List.mem_append_left _ (List.mem_append_right _ h))) (by decide +kernel))) (goodIn_sub (fun _ h => List.mem_cons_of_mem _ (List.mem_append_right _ h)) (by decide +kernel))
set_option maxRecDepth 20000 in
theorem gX0_isStraightByAll_X0_isStraight : GoodIn wsX0_isStraightByAll (wsV RX0 194 RX0 yX0_isStraight wsX0_isStraight) := goodIn_app (goodIn_of _ (by decide +kernel)) ggX0_isStraightByAll_X0_isStraight
set_option maxRecDepth 20000 in
theorem ggX0_isAreaSound_X0_doubleArea : GoodIn wsX0_isAreaSound wsX0_doubleArea := goodIn_r _ [9, 10, 11, 12, 13, 8, 14, 15, 16, 17, 18, 19, 20, 21, 22, 23, 24, 25, 26, 27, 28, 29, 30, 31, 32, 89, 90, 91, 92, 93, 94] (by decide +kernel) (by decide +kernel)
set_option maxRecDepth 20000 in
theorem gX0_isAreaSound_X0_doubleArea : GoodIn wsX0_isAreaSound (wsV RX0 150 RX0 yX0_doubleArea wsX0_doubleArea) := goodIn_app (goodIn_of _ (by decide +kernel)) ggX0_isAreaSound_X0_doubleArea
set_option maxRecDepth 20000 in
theorem ggX0_isAreaSound_X0_isNumber : GoodIn wsX0_isAreaSound wsX0_isNumber := goodIn_r _ [35] (by decide +kernel) (by decide +kernel)
set_option maxRecDepth 20000 in
theorem gX0_isAreaSound_X0_isNumber : GoodIn wsX0_isAreaSound (va_wsS RX0 159 yX0_isNumber wsX0_isNumber) := goodIn_app (goodIn_of _ (by decide +kernel)) ggX0_isAreaSound_X0_isNumber
set_option maxRecDepth 20000 in
theorem ggX0_isAreaSound_X0_isRootSound : GoodIn wsX0_isAreaSound wsX0_isRootSound := goodIn_ca (goodIn_r _ [39, 40, 41, 42, 8, 43, 44, 45, 46, 47, 48, 49, 33, 34, 35, 50, 51, 52, 53, 54, 55, 56, 57, 58, 59, 60, 61, 62, 63, 64, 65, 66, 67, 68, 69, 70, 71, 72, 73, 74, 75, 76, 77, 78, 79, 80, 81] (by decide +kernel) (by decide +kernel)) (goodIn_sub (fun _ h => List.mem_cons_of_mem _ (List.mem_append_right _ h)) (by decide +kernel))
set_option maxRecDepth 20000 in
theorem gX0_isAreaSound_X0_isRootSound : GoodIn wsX0_isAreaSound (wsV RX0 198 RX0 yX0_isRootSound wsX0_isRootSound) := goodIn_app (goodIn_of _ (by decide +kernel)) ggX0_isAreaSound_X0_isRootSound
set_option maxRecDepth 20000 in
theorem ggX0_isAreaSound_X0_root : GoodIn wsX0_isAreaSound wsX0_root := goodIn_ca (goodIn_r _ [85, 45, 46, 8, 47, 48, 49, 33, 34, 35, 50, 51, 52, 53, 54, 55, 56, 57, 58, 59, 60, 61, 62, 86, 87, 88, 67, 68, 69, 63, 64, 65, 66] (by decide +kernel) (by decide +kernel)) (goodIn_sub (fun _ h => List.mem_cons_of_mem _ (List.mem_append_right _ h)) (by decide +kernel))
set_option maxRecDepth 20000 in
theorem gX0_isAreaSound_X0_root : GoodIn wsX0_isAreaSound (wsV RX0 201 RX0 yX0_root wsX0_root) := goodIn_app (goodIn_of _ (by decide +kernel)) ggX0_isAreaSound_X0_root
set_option maxRecDepth 20000 in
theorem ggX0_isRootSound_X0_isNearest : GoodIn wsX0_isRootSound wsX0_isNearest := goodIn_ca (goodIn_r _ [5, 6, 7, 8, 4, 9, 10, 11, 12, 13, 14, 15, 16, 17, 18, 19, 20, 21, 22, 23, 24, 25, 26, 27, 28, 29, 30, 31, 32, 33, 34, 35, 36, 37, 38, 39] (by decide +kernel) (by decide +kernel)) (goodIn_sub (fun _ h => List.mem_cons_of_mem _ (List.mem_append_right _ h)) (by decide +kernel))
set_option maxRecDepth 20000 in
theorem gX0_isRootSound_X0_isNearest : GoodIn wsX0_isRootSound (wsV RX0 205 RX0 yX0_isNearest wsX0_isNearest) := goodIn_app (goodIn_of _ (by decide +kernel)) ggX0_isRootSound_X0_isNearest
set_option maxRecDepth 20000 in
theorem ggX0_isRootSound_X0_isHalved : GoodIn wsX0_isRootSound wsX0_isHalved := goodIn_ca (goodIn_r _ [43, 7, 8, 4, 9, 10, 11, 12, 13, 14, 15, 16, 17, 18, 19, 20, 21, 22, 23, 24, 25, 26, 27, 44, 45, 46] (by decide +kernel) (by decide +kernel)) (goodIn_sub (fun _ h => List.mem_cons_of_mem _ (List.mem_append_right _ h)) (by decide +kernel))
set_option maxRecDepth 20000 in
theorem gX0_isRootSound_X0_isHalved : GoodIn wsX0_isRootSound (wsV RX0 209 RX0 yX0_isHalved wsX0_isHalved) := goodIn_app (goodIn_of _ (by decide +kernel)) ggX0_isRootSound_X0_isHalved
set_option maxRecDepth 20000 in
theorem ggX0_requirePeg_X0_isPeg : GoodIn wsX0_requirePeg wsX0_isPeg := goodIn_r _ [6] (by decide +kernel) (by decide +kernel)
set_option maxRecDepth 20000 in
theorem gX0_requirePeg_X0_isPeg : GoodIn wsX0_requirePeg (va_wsS RX0 64 yX0_isPeg wsX0_isPeg) := goodIn_app (goodIn_of _ (by decide +kernel)) ggX0_requirePeg_X0_isPeg
set_option maxRecDepth 20000 in
theorem ggX0_requireStanding_X0_stands : GoodIn wsX0_requireStanding wsX0_stands := goodIn_r _ [7, 8, 9, 10, 6, 11, 12, 13, 14, 15, 16, 17] (by decide +kernel) (by decide +kernel)
set_option maxRecDepth 20000 in
theorem gX0_requireStanding_X0_stands : GoodIn wsX0_requireStanding (wsV RX0 46 RX0 yX0_stands wsX0_stands) := goodIn_app (goodIn_of _ (by decide +kernel)) ggX0_requireStanding_X0_stands
set_option maxRecDepth 20000 in
theorem ggX0_requireTwo_X0_requirePeg : GoodIn wsX0_requireTwo wsX0_requirePeg := goodIn_ca (goodIn_r _ [4, 5, 6, 7, 8, 3, 9] (by decide +kernel) (by decide +kernel)) (goodIn_sub (fun _ h => List.mem_cons_of_mem _ (List.mem_append_left _ (List.mem_append_right _ h))) (by decide +kernel))
set_option maxRecDepth 20000 in
theorem gX0_requireTwo_X0_requirePeg : GoodIn wsX0_requireTwo (va_wsS RX0 31 yX0_requirePeg wsX0_requirePeg) := goodIn_app (goodIn_of _ (by decide +kernel)) ggX0_requireTwo_X0_requirePeg
set_option maxRecDepth 20000 in
theorem ggX0_requireTwo_X0_requireStanding : GoodIn wsX0_requireTwo wsX0_requireStanding := goodIn_ca (goodIn_r _ [13, 14, 15, 16, 17, 18, 3, 19, 20, 7, 8, 9, 21, 22, 23, 24, 25, 26] (by decide +kernel) (by decide +kernel)) (goodIn_sub (fun _ h => List.mem_cons_of_mem _ (List.mem_append_right _ h)) (by decide +kernel))
set_option maxRecDepth 20000 in
theorem gX0_requireTwo_X0_requireStanding : GoodIn wsX0_requireTwo (wsV RX0 53 RX0 yX0_requireStanding wsX0_requireStanding) := goodIn_app (goodIn_of _ (by decide +kernel)) ggX0_requireTwo_X0_requireStanding
set_option maxRecDepth 20000 in
theorem ggX0_requireNumber_X0_isNumber : GoodIn wsX0_requireNumber wsX0_isNumber := goodIn_r _ [6] (by decide +kernel) (by decide +kernel)
set_option maxRecDepth 20000 in
theorem gX0_requireNumber_X0_isNumber : GoodIn wsX0_requireNumber (va_wsS RX0 159 yX0_isNumber wsX0_isNumber) := goodIn_app (goodIn_of _ (by decide +kernel)) ggX0_requireNumber_X0_isNumber
set_option maxRecDepth 20000 in
theorem ggX0_stands_X0_isPeg : GoodIn wsX0_stands wsX0_isPeg := goodIn_r _ [5] (by decide +kernel) (by decide +kernel)
set_option maxRecDepth 20000 in
theorem gX0_stands_X0_isPeg : GoodIn wsX0_stands (va_wsS RX0 64 yX0_isPeg wsX0_isPeg) := goodIn_app (goodIn_of _ (by decide +kernel)) ggX0_stands_X0_isPeg
set_option maxRecDepth 20000 in
theorem ggX0_across_X0_isPeg : GoodIn wsX0_across wsX0_isPeg := goodIn_r _ [5] (by decide +kernel) (by decide +kernel)
set_option maxRecDepth 20000 in
theorem gX0_across_X0_isPeg : GoodIn wsX0_across (va_wsS RX0 64 yX0_isPeg wsX0_isPeg) := goodIn_app (goodIn_of _ (by decide +kernel)) ggX0_across_X0_isPeg
set_option maxRecDepth 20000 in
theorem ggX0_up_X0_isPeg : GoodIn wsX0_up wsX0_isPeg := goodIn_r _ [5] (by decide +kernel) (by decide +kernel)
set_option maxRecDepth 20000 in
theorem gX0_up_X0_isPeg : GoodIn wsX0_up (va_wsS RX0 64 yX0_isPeg wsX0_isPeg) := goodIn_app (goodIn_of _ (by decide +kernel)) ggX0_up_X0_isPeg
set_option maxRecDepth 20000 in
theorem ggX0_moveTo_X0_isPeg : GoodIn wsX0_moveTo wsX0_isPeg := goodIn_r _ [7] (by decide +kernel) (by decide +kernel)
set_option maxRecDepth 20000 in
theorem gX0_moveTo_X0_isPeg : GoodIn wsX0_moveTo (va_wsS RX0 64 yX0_isPeg wsX0_isPeg) := goodIn_app (goodIn_of _ (by decide +kernel)) ggX0_moveTo_X0_isPeg
set_option maxRecDepth 20000 in
theorem ggX0_isInRing_X0_pegInRing : GoodIn wsX0_isInRing wsX0_pegInRing := goodIn_r _ [6, 7, 8, 9, 10, 11, 12, 13] (by decide +kernel) (by decide +kernel)
set_option maxRecDepth 20000 in
theorem gX0_isInRing_X0_pegInRing : GoodIn wsX0_isInRing (wsV RX0 139 RX0 yX0_pegInRing wsX0_pegInRing) := goodIn_app (goodIn_of _ (by decide +kernel)) ggX0_isInRing_X0_pegInRing
set_option maxRecDepth 20000 in
theorem ggX0_nearestOther_X0_stands : GoodIn wsX0_nearestOther wsX0_stands := goodIn_r _ [5, 6, 7, 8, 4, 9, 34, 35, 36, 37, 38, 39] (by decide +kernel) (by decide +kernel)
set_option maxRecDepth 20000 in
theorem gX0_nearestOther_X0_stands : GoodIn wsX0_nearestOther (wsV RX0 46 RX0 yX0_stands wsX0_stands) := goodIn_app (goodIn_of _ (by decide +kernel)) ggX0_nearestOther_X0_stands
set_option maxRecDepth 20000 in
theorem ggX0_nearestOther_X0_stretchGrains : GoodIn wsX0_nearestOther wsX0_stretchGrains := goodIn_r _ [13, 14, 15, 16, 17, 4, 18, 19, 7, 8, 9, 20, 21, 22, 23, 24, 25, 26, 27, 28, 29, 30, 31, 32, 33, 34, 35, 36, 37, 38, 39] (by decide +kernel) (by decide +kernel)
set_option maxRecDepth 20000 in
theorem gX0_nearestOther_X0_stretchGrains : GoodIn wsX0_nearestOther (wsV RX0 80 RX0 yX0_stretchGrains wsX0_stretchGrains) := goodIn_app (goodIn_of _ (by decide +kernel)) ggX0_nearestOther_X0_stretchGrains
set_option maxRecDepth 20000 in
theorem ggX0_stretchGrains_X0_across : GoodIn wsX0_stretchGrains wsX0_across := goodIn_r _ [6, 7, 8, 9, 5, 10, 25, 26, 27, 28, 29, 30] (by decide +kernel) (by decide +kernel)
set_option maxRecDepth 20000 in
theorem gX0_stretchGrains_X0_across : GoodIn wsX0_stretchGrains (wsV RX0 69 RX0 yX0_across wsX0_across) := goodIn_app (goodIn_of _ (by decide +kernel)) ggX0_stretchGrains_X0_across
set_option maxRecDepth 20000 in
theorem ggX0_stretchGrains_X0_up : GoodIn wsX0_stretchGrains wsX0_up := goodIn_r _ [14, 15, 8, 9, 5, 10, 25, 26, 27, 28, 29, 30] (by decide +kernel) (by decide +kernel)
set_option maxRecDepth 20000 in
theorem gX0_stretchGrains_X0_up : GoodIn wsX0_stretchGrains (wsV RX0 73 RX0 yX0_up wsX0_up) := goodIn_app (goodIn_of _ (by decide +kernel)) ggX0_stretchGrains_X0_up
set_option maxRecDepth 20000 in
theorem ggX0_stretchGrains_X0_squareSum : GoodIn wsX0_stretchGrains wsX0_squareSum := goodIn_r _ [18] (by decide +kernel) (by decide +kernel)
set_option maxRecDepth 20000 in
theorem gX0_stretchGrains_X0_squareSum : GoodIn wsX0_stretchGrains (va_wsS RX0 92 yX0_squareSum wsX0_squareSum) := goodIn_app (goodIn_of _ (by decide +kernel)) ggX0_stretchGrains_X0_squareSum
set_option maxRecDepth 20000 in
theorem ggX0_stretchGrains_X0_grainsOfRoot : GoodIn wsX0_stretchGrains wsX0_grainsOfRoot := goodIn_r _ [21, 22, 23, 5, 24] (by decide +kernel) (by decide +kernel)
set_option maxRecDepth 20000 in
theorem gX0_stretchGrains_X0_grainsOfRoot : GoodIn wsX0_stretchGrains (va_wsS RX0 119 yX0_grainsOfRoot wsX0_grainsOfRoot) := goodIn_app (goodIn_of _ (by decide +kernel)) ggX0_stretchGrains_X0_grainsOfRoot
set_option maxRecDepth 20000 in
theorem ggX0_hypotenuseBits_X0_squareSum : GoodIn wsX0_hypotenuseBits wsX0_squareSum := goodIn_r _ [4] (by decide +kernel) (by decide +kernel)
set_option maxRecDepth 20000 in
theorem gX0_hypotenuseBits_X0_squareSum : GoodIn wsX0_hypotenuseBits (va_wsS RX0 92 yX0_squareSum wsX0_squareSum) := goodIn_app (goodIn_of _ (by decide +kernel)) ggX0_hypotenuseBits_X0_squareSum
set_option maxRecDepth 20000 in
theorem ggX0_hypotenuseBits_X0_bitsOfRoot : GoodIn wsX0_hypotenuseBits wsX0_bitsOfRoot := goodIn_r _ [7, 8, 9, 10, 3, 11, 12, 13, 14] (by decide +kernel) (by decide +kernel)
set_option maxRecDepth 20000 in
theorem gX0_hypotenuseBits_X0_bitsOfRoot : GoodIn wsX0_hypotenuseBits (va_wsS RX0 122 yX0_bitsOfRoot wsX0_bitsOfRoot) := goodIn_app (goodIn_of _ (by decide +kernel)) ggX0_hypotenuseBits_X0_bitsOfRoot
set_option maxRecDepth 20000 in
theorem ggX0_wholePart_X0_rootDigits : GoodIn wsX0_wholePart wsX0_rootDigits := goodIn_r _ [4] (by decide +kernel) (by decide +kernel)
set_option maxRecDepth 20000 in
theorem gX0_wholePart_X0_rootDigits : GoodIn wsX0_wholePart (va_wsS RX0 221 yX0_rootDigits wsX0_rootDigits) := goodIn_app (goodIn_of _ (by decide +kernel)) ggX0_wholePart_X0_rootDigits
set_option maxRecDepth 20000 in
theorem ggX0_grainsOfRoot_X0_rootDigits : GoodIn wsX0_grainsOfRoot wsX0_rootDigits := goodIn_r _ [4] (by decide +kernel) (by decide +kernel)
set_option maxRecDepth 20000 in
theorem gX0_grainsOfRoot_X0_rootDigits : GoodIn wsX0_grainsOfRoot (va_wsS RX0 221 yX0_rootDigits wsX0_rootDigits) := goodIn_app (goodIn_of _ (by decide +kernel)) ggX0_grainsOfRoot_X0_rootDigits
set_option maxRecDepth 20000 in
theorem ggX0_bitsOfRoot_X0_highestPair : GoodIn wsX0_bitsOfRoot wsX0_highestPair := goodIn_r _ [5] (by decide +kernel) (by decide +kernel)
set_option maxRecDepth 20000 in
theorem gX0_bitsOfRoot_X0_highestPair : GoodIn wsX0_bitsOfRoot (va_wsS RX0 225 yX0_highestPair wsX0_highestPair) := goodIn_app (goodIn_of _ (by decide +kernel)) ggX0_bitsOfRoot_X0_highestPair
set_option maxRecDepth 20000 in
theorem ggX0_bitsOfRoot_X0_rootDigits : GoodIn wsX0_bitsOfRoot wsX0_rootDigits := goodIn_r _ [8] (by decide +kernel) (by decide +kernel)
set_option maxRecDepth 20000 in
theorem gX0_bitsOfRoot_X0_rootDigits : GoodIn wsX0_bitsOfRoot (va_wsS RX0 221 yX0_rootDigits wsX0_rootDigits) := goodIn_app (goodIn_of _ (by decide +kernel)) ggX0_bitsOfRoot_X0_rootDigits
set_option maxRecDepth 20000 in
theorem ggX0_doubleOf_X0_placesAfterPoint : GoodIn wsX0_doubleOf wsX0_placesAfterPoint := goodIn_r _ [4] (by decide +kernel) (by decide +kernel)
set_option maxRecDepth 20000 in
theorem gX0_doubleOf_X0_placesAfterPoint : GoodIn wsX0_doubleOf (va_wsS RX0 99 yX0_placesAfterPoint wsX0_placesAfterPoint) := goodIn_app (goodIn_of _ (by decide +kernel)) ggX0_doubleOf_X0_placesAfterPoint
set_option maxRecDepth 20000 in
theorem ggX0_doubleOf_X0_unitsOf : GoodIn wsX0_doubleOf wsX0_unitsOf := goodIn_r _ [7, 8, 9] (by decide +kernel) (by decide +kernel)
set_option maxRecDepth 20000 in
theorem gX0_doubleOf_X0_unitsOf : GoodIn wsX0_doubleOf (va_wsS RX0 96 yX0_unitsOf wsX0_unitsOf) := goodIn_app (goodIn_of _ (by decide +kernel)) ggX0_doubleOf_X0_unitsOf
end
section
set_option maxRecDepth 20000 in
theorem ggX1_isNoNumber_X1_lies : GoodIn wsX1_isNoNumber wsX1_lies := goodIn_r _ [4] (by decide +kernel) (by decide +kernel)
set_option maxRecDepth 20000 in
theorem gX1_isNoNumber_X1_lies : GoodIn wsX1_isNoNumber (va_wsS RX1 27 yX1_lies wsX1_lies) := goodIn_app (goodIn_of _ (by decide +kernel)) ggX1_isNoNumber_X1_lies
set_option maxRecDepth 20000 in
theorem ggX1_isNoNumber_X1_isThrown : GoodIn wsX1_isNoNumber wsX1_isThrown := goodIn_r _ [8, 9, 10, 11, 12, 13, 14, 15, 16] (by decide +kernel) (by decide +kernel)
set_option maxRecDepth 20000 in
theorem gX1_isNoNumber_X1_isThrown : GoodIn wsX1_isNoNumber (wsV RX1 31 RX1 yX1_isThrown wsX1_isThrown) := goodIn_app (goodIn_of _ (by decide +kernel)) ggX1_isNoNumber_X1_isThrown
set_option maxRecDepth 20000 in
theorem ggX1_isNoPeg_X1_isNoNumber : GoodIn wsX1_isNoPeg wsX1_isNoNumber := goodIn_r _ [6, 7, 8, 5, 9, 10, 11, 12, 13, 14, 15, 16, 17, 18, 19, 20, 21] (by decide +kernel) (by decide +kernel)
set_option maxRecDepth 20000 in
theorem gX1_isNoPeg_X1_isNoNumber : GoodIn wsX1_isNoPeg (wsV RX1 35 RX1 yX1_isNoNumber wsX1_isNoNumber) := goodIn_app (goodIn_of _ (by decide +kernel)) ggX1_isNoPeg_X1_isNoNumber
set_option maxRecDepth 20000 in
theorem ggX1_isNoPeg_X1_isThrown : GoodIn wsX1_isNoPeg wsX1_isThrown := goodIn_r _ [13, 14, 15, 16, 17, 18, 19, 20, 21] (by decide +kernel) (by decide +kernel)
set_option maxRecDepth 20000 in
theorem gX1_isNoPeg_X1_isThrown : GoodIn wsX1_isNoPeg (wsV RX1 31 RX1 yX1_isThrown wsX1_isThrown) := goodIn_app (goodIn_of _ (by decide +kernel)) ggX1_isNoPeg_X1_isThrown
set_option maxRecDepth 20000 in
theorem ggX1_isNoPair_X1_isNoNumber : GoodIn wsX1_isNoPair wsX1_isNoNumber := goodIn_r _ [6, 7, 8, 5, 9, 10, 11, 12, 13, 14, 15, 16, 17, 18, 19, 20, 21] (by decide +kernel) (by decide +kernel)
set_option maxRecDepth 20000 in
theorem gX1_isNoPair_X1_isNoNumber : GoodIn wsX1_isNoPair (wsV RX1 35 RX1 yX1_isNoNumber wsX1_isNoNumber) := goodIn_app (goodIn_of _ (by decide +kernel)) ggX1_isNoPair_X1_isNoNumber
set_option maxRecDepth 20000 in
theorem ggX1_isNoPair_X1_isThrown : GoodIn wsX1_isNoPair wsX1_isThrown := goodIn_r _ [13, 14, 15, 16, 17, 18, 19, 20, 21] (by decide +kernel) (by decide +kernel)
set_option maxRecDepth 20000 in
theorem gX1_isNoPair_X1_isThrown : GoodIn wsX1_isNoPair (wsV RX1 31 RX1 yX1_isThrown wsX1_isThrown) := goodIn_app (goodIn_of _ (by decide +kernel)) ggX1_isNoPair_X1_isThrown
set_option maxRecDepth 20000 in
theorem ggX1_isNoAsked_X1_lies : GoodIn wsX1_isNoAsked wsX1_lies := goodIn_r _ [4] (by decide +kernel) (by decide +kernel)
set_option maxRecDepth 20000 in
theorem gX1_isNoAsked_X1_lies : GoodIn wsX1_isNoAsked (va_wsS RX1 27 yX1_lies wsX1_lies) := goodIn_app (goodIn_of _ (by decide +kernel)) ggX1_isNoAsked_X1_lies
set_option maxRecDepth 20000 in
theorem ggX1_isNoAsked_X1_isThrown : GoodIn wsX1_isNoAsked wsX1_isThrown := goodIn_r _ [8, 9, 10, 11, 12, 13, 14, 15, 16] (by decide +kernel) (by decide +kernel)
set_option maxRecDepth 20000 in
theorem gX1_isNoAsked_X1_isThrown : GoodIn wsX1_isNoAsked (wsV RX1 31 RX1 yX1_isThrown wsX1_isThrown) := goodIn_app (goodIn_of _ (by decide +kernel)) ggX1_isNoAsked_X1_isThrown
set_option maxRecDepth 20000 in
theorem ggX1_near_X1_rooted : GoodIn wsX1_near wsX1_rooted := goodIn_r _ [5, 6, 1] (by decide +kernel) (by decide +kernel)
set_option maxRecDepth 20000 in
theorem gX1_near_X1_rooted : GoodIn wsX1_near (va_wsS RX1 43 yX1_rooted wsX1_rooted) := goodIn_app (goodIn_of _ (by decide +kernel)) ggX1_near_X1_rooted
set_option maxRecDepth 20000 in
theorem ggX1_powerOf_X1_rooted : GoodIn wsX1_powerOf wsX1_rooted := goodIn_r _ [4, 5, 6] (by decide +kernel) (by decide +kernel)
set_option maxRecDepth 20000 in
theorem gX1_powerOf_X1_rooted : GoodIn wsX1_powerOf (va_wsS RX1 43 yX1_rooted wsX1_rooted) := goodIn_app (goodIn_of _ (by decide +kernel)) ggX1_powerOf_X1_rooted
set_option maxRecDepth 20000 in
theorem ggX1_bitsOf_X1_powerOf : GoodIn wsX1_bitsOf wsX1_powerOf := goodIn_r _ [7, 8, 9, 6, 10, 11, 12] (by decide +kernel) (by decide +kernel)
set_option maxRecDepth 20000 in
theorem gX1_bitsOf_X1_powerOf : GoodIn wsX1_bitsOf (va_wsS RX1 47 yX1_powerOf wsX1_powerOf) := goodIn_app (goodIn_of _ (by decide +kernel)) ggX1_bitsOf_X1_powerOf
set_option maxRecDepth 20000 in
theorem ggX1_bitsOf_X1_near : GoodIn wsX1_bitsOf wsX1_near := goodIn_r _ [15, 12, 8, 9, 6, 10, 11] (by decide +kernel) (by decide +kernel)
set_option maxRecDepth 20000 in
theorem gX1_bitsOf_X1_near : GoodIn wsX1_bitsOf (va_wsS RX1 55 yX1_near wsX1_near) := goodIn_app (goodIn_of _ (by decide +kernel)) ggX1_bitsOf_X1_near
set_option maxRecDepth 20000 in
theorem ggX1_rootGrainsOf_X1_near : GoodIn wsX1_rootGrainsOf wsX1_near := goodIn_r _ [4, 5, 6, 7, 3, 8, 9] (by decide +kernel) (by decide +kernel)
set_option maxRecDepth 20000 in
theorem gX1_rootGrainsOf_X1_near : GoodIn wsX1_rootGrainsOf (va_wsS RX1 55 yX1_near wsX1_near) := goodIn_app (goodIn_of _ (by decide +kernel)) ggX1_rootGrainsOf_X1_near
set_option maxRecDepth 20000 in
theorem ggX1_wholeOf_X1_rooted : GoodIn wsX1_wholeOf wsX1_rooted := goodIn_r _ [4, 5, 6] (by decide +kernel) (by decide +kernel)
set_option maxRecDepth 20000 in
theorem gX1_wholeOf_X1_rooted : GoodIn wsX1_wholeOf (va_wsS RX1 43 yX1_rooted wsX1_rooted) := goodIn_app (goodIn_of _ (by decide +kernel)) ggX1_wholeOf_X1_rooted
set_option maxRecDepth 20000 in
theorem ggX1_put_X1_isNoNumber : GoodIn wsX1_put wsX1_isNoNumber := goodIn_r _ [8, 9, 10, 7, 11, 12, 13, 14, 15, 16, 17, 18, 19, 20, 21, 22, 23] (by decide +kernel) (by decide +kernel)
set_option maxRecDepth 20000 in
theorem gX1_put_X1_isNoNumber : GoodIn wsX1_put (wsV RX1 35 RX1 yX1_isNoNumber wsX1_isNoNumber) := goodIn_app (goodIn_of _ (by decide +kernel)) ggX1_put_X1_isNoNumber
set_option maxRecDepth 20000 in
theorem ggX1_put_X1_lies : GoodIn wsX1_put wsX1_lies := goodIn_r _ [11] (by decide +kernel) (by decide +kernel)
set_option maxRecDepth 20000 in
theorem gX1_put_X1_lies : GoodIn wsX1_put (va_wsS RX1 27 yX1_lies wsX1_lies) := goodIn_app (goodIn_of _ (by decide +kernel)) ggX1_put_X1_lies
set_option maxRecDepth 20000 in
theorem ggX1_put_X1_isThrown : GoodIn wsX1_put wsX1_isThrown := goodIn_r _ [15, 16, 17, 18, 19, 20, 21, 22, 23] (by decide +kernel) (by decide +kernel)
set_option maxRecDepth 20000 in
theorem gX1_put_X1_isThrown : GoodIn wsX1_put (wsV RX1 31 RX1 yX1_isThrown wsX1_isThrown) := goodIn_app (goodIn_of _ (by decide +kernel)) ggX1_put_X1_isThrown
set_option maxRecDepth 20000 in
theorem ggX1_take_X1_isNoPeg : GoodIn wsX1_take wsX1_isNoPeg := goodIn_r _ [6, 1, 7, 8, 9, 5, 10, 11, 12, 13, 14, 15, 16, 17, 18, 25, 26, 27, 28, 29, 30, 31] (by decide +kernel) (by decide +kernel)
set_option maxRecDepth 20000 in
theorem gX1_take_X1_isNoPeg : GoodIn wsX1_take (wsV RX1 63 RX1 yX1_isNoPeg wsX1_isNoPeg) := goodIn_app (goodIn_of _ (by decide +kernel)) ggX1_take_X1_isNoPeg
set_option maxRecDepth 20000 in
theorem ggX1_take_X1_isInRing : GoodIn wsX1_take wsX1_isInRing := goodIn_r _ [22, 23, 24, 25, 26, 27, 28, 29, 30, 31] (by decide +kernel) (by decide +kernel)
set_option maxRecDepth 20000 in
theorem gX1_take_X1_isInRing : GoodIn wsX1_take (wsV RX1 66 RX1 yX1_isInRing wsX1_isInRing) := goodIn_app (goodIn_of _ (by decide +kernel)) ggX1_take_X1_isInRing
set_option maxRecDepth 20000 in
theorem ggX1_take_X1_isThrown : GoodIn wsX1_take wsX1_isThrown := goodIn_r _ [17, 18, 25, 26, 27, 28, 29, 30, 31] (by decide +kernel) (by decide +kernel)
set_option maxRecDepth 20000 in
theorem gX1_take_X1_isThrown : GoodIn wsX1_take (wsV RX1 31 RX1 yX1_isThrown wsX1_isThrown) := goodIn_app (goodIn_of _ (by decide +kernel)) ggX1_take_X1_isThrown
set_option maxRecDepth 20000 in
theorem ggX1_step_X1_isNoPeg : GoodIn wsX1_step wsX1_isNoPeg := goodIn_r _ [7, 8, 9, 10, 11, 6, 12, 13, 14, 15, 16, 17, 18, 19, 20, 21, 22, 23, 24, 25, 26, 27] (by decide +kernel) (by decide +kernel)
set_option maxRecDepth 20000 in
theorem gX1_step_X1_isNoPeg : GoodIn wsX1_step (wsV RX1 63 RX1 yX1_isNoPeg wsX1_isNoPeg) := goodIn_app (goodIn_of _ (by decide +kernel)) ggX1_step_X1_isNoPeg
set_option maxRecDepth 20000 in
theorem ggX1_step_X1_isThrown : GoodIn wsX1_step wsX1_isThrown := goodIn_r _ [19, 20, 21, 22, 23, 24, 25, 26, 27] (by decide +kernel) (by decide +kernel)
set_option maxRecDepth 20000 in
theorem gX1_step_X1_isThrown : GoodIn wsX1_step (wsV RX1 31 RX1 yX1_isThrown wsX1_isThrown) := goodIn_app (goodIn_of _ (by decide +kernel)) ggX1_step_X1_isThrown
set_option maxRecDepth 20000 in
theorem ggX1_step_X1_lies : GoodIn wsX1_step wsX1_lies := goodIn_r _ [15] (by decide +kernel) (by decide +kernel)
set_option maxRecDepth 20000 in
theorem gX1_step_X1_lies : GoodIn wsX1_step (va_wsS RX1 27 yX1_lies wsX1_lies) := goodIn_app (goodIn_of _ (by decide +kernel)) ggX1_step_X1_lies
set_option maxRecDepth 20000 in
theorem ggX1_isThere_X1_isNoNumber : GoodIn wsX1_isThere wsX1_isNoNumber := goodIn_r _ [6, 7, 8, 5, 9, 10, 11, 12, 13, 14, 15, 16, 17, 18, 19, 20, 21] (by decide +kernel) (by decide +kernel)
set_option maxRecDepth 20000 in
theorem gX1_isThere_X1_isNoNumber : GoodIn wsX1_isThere (wsV RX1 35 RX1 yX1_isNoNumber wsX1_isNoNumber) := goodIn_app (goodIn_of _ (by decide +kernel)) ggX1_isThere_X1_isNoNumber
set_option maxRecDepth 20000 in
theorem ggX1_placeOf_X1_isNoPeg : GoodIn wsX1_placeOf wsX1_isNoPeg := goodIn_r _ [5, 6, 7, 8, 9, 4, 10, 11, 12, 13, 14, 15, 16, 17, 18, 25, 26, 27, 28, 29, 30, 31] (by decide +kernel) (by decide +kernel)
set_option maxRecDepth 20000 in
theorem gX1_placeOf_X1_isNoPeg : GoodIn wsX1_placeOf (wsV RX1 63 RX1 yX1_isNoPeg wsX1_isNoPeg) := goodIn_app (goodIn_of _ (by decide +kernel)) ggX1_placeOf_X1_isNoPeg
set_option maxRecDepth 20000 in
theorem ggX1_placeOf_X1_placed : GoodIn wsX1_placeOf wsX1_placed := goodIn_r _ [22, 23, 24, 25, 26, 27, 28, 29, 30, 31] (by decide +kernel) (by decide +kernel)
set_option maxRecDepth 20000 in
theorem gX1_placeOf_X1_placed : GoodIn wsX1_placeOf (wsV RX1 69 RX1 yX1_placed wsX1_placed) := goodIn_app (goodIn_of _ (by decide +kernel)) ggX1_placeOf_X1_placed
set_option maxRecDepth 20000 in
theorem ggX1_grainsOf_X1_near : GoodIn wsX1_grainsOf wsX1_near := goodIn_r _ [7, 8, 9, 10, 6, 11, 12] (by decide +kernel) (by decide +kernel)
set_option maxRecDepth 20000 in
theorem gX1_grainsOf_X1_near : GoodIn wsX1_grainsOf (va_wsS RX1 55 yX1_near wsX1_near) := goodIn_app (goodIn_of _ (by decide +kernel)) ggX1_grainsOf_X1_near
set_option maxRecDepth 20000 in
theorem ggX1_stretch_X1_isNoPair : GoodIn wsX1_stretch wsX1_isNoPair := goodIn_r _ [5, 6, 7, 8, 9, 4, 10, 11, 12, 13, 14, 15, 16, 17, 18, 34, 35, 36, 37, 38, 39, 40] (by decide +kernel) (by decide +kernel)
set_option maxRecDepth 20000 in
theorem gX1_stretch_X1_isNoPair : GoodIn wsX1_stretch (wsV RX1 76 RX1 yX1_isNoPair wsX1_isNoPair) := goodIn_app (goodIn_of _ (by decide +kernel)) ggX1_stretch_X1_isNoPair
set_option maxRecDepth 20000 in
theorem ggX1_stretch_X1_grainsOf : GoodIn wsX1_stretch wsX1_grainsOf := goodIn_r _ [22, 23, 24, 25, 26, 27, 4, 28, 29, 30, 31, 32, 33, 34, 35, 36, 37, 38, 39, 40] (by decide +kernel) (by decide +kernel)
set_option maxRecDepth 20000 in
theorem gX1_stretch_X1_grainsOf : GoodIn wsX1_stretch (wsV RX1 80 RX1 yX1_grainsOf wsX1_grainsOf) := goodIn_app (goodIn_of _ (by decide +kernel)) ggX1_stretch_X1_grainsOf
set_option maxRecDepth 20000 in
theorem ggX1_isSteady_X1_isNoPair : GoodIn wsX1_isSteady wsX1_isNoPair := goodIn_r _ [5, 6, 7, 8, 9, 4, 10, 11, 12, 13, 14, 15, 16, 17, 18, 19, 20, 21, 22, 23, 24, 25] (by decide +kernel) (by decide +kernel)
set_option maxRecDepth 20000 in
theorem gX1_isSteady_X1_isNoPair : GoodIn wsX1_isSteady (wsV RX1 76 RX1 yX1_isNoPair wsX1_isNoPair) := goodIn_app (goodIn_of _ (by decide +kernel)) ggX1_isSteady_X1_isNoPair
set_option maxRecDepth 20000 in
theorem ggX1_isDoubled_X1_isNoPair : GoodIn wsX1_isDoubled wsX1_isNoPair := goodIn_r _ [5, 6, 7, 8, 9, 4, 10, 11, 12, 13, 14, 15, 16, 17, 18, 19, 20, 21, 22, 23, 24, 25] (by decide +kernel) (by decide +kernel)
set_option maxRecDepth 20000 in
theorem gX1_isDoubled_X1_isNoPair : GoodIn wsX1_isDoubled (wsV RX1 76 RX1 yX1_isNoPair wsX1_isNoPair) := goodIn_app (goodIn_of _ (by decide +kernel)) ggX1_isDoubled_X1_isNoPair
set_option maxRecDepth 20000 in
theorem ggX1_isClose_X1_isNoPair : GoodIn wsX1_isClose wsX1_isNoPair := goodIn_r _ [5, 6, 7, 8, 9, 4, 10, 11, 12, 13, 14, 15, 16, 17, 18, 19, 20, 21, 22, 23, 24, 25] (by decide +kernel) (by decide +kernel)
set_option maxRecDepth 20000 in
theorem gX1_isClose_X1_isNoPair : GoodIn wsX1_isClose (wsV RX1 76 RX1 yX1_isNoPair wsX1_isNoPair) := goodIn_app (goodIn_of _ (by decide +kernel)) ggX1_isClose_X1_isNoPair
set_option maxRecDepth 20000 in
theorem ggX1_isNoLonger_X1_grainsOf : GoodIn wsX1_isNoLonger wsX1_grainsOf := goodIn_r _ [5, 6, 7, 8, 9, 10, 4, 11, 12, 13, 14, 15, 16, 17, 18, 19, 20, 21, 22, 23] (by decide +kernel) (by decide +kernel)
set_option maxRecDepth 20000 in
theorem gX1_isNoLonger_X1_grainsOf : GoodIn wsX1_isNoLonger (wsV RX1 80 RX1 yX1_grainsOf wsX1_grainsOf) := goodIn_app (goodIn_of _ (by decide +kernel)) ggX1_isNoLonger_X1_grainsOf
set_option maxRecDepth 20000 in
theorem ggX1_isStraight_X1_isNoNumber : GoodIn wsX1_isStraight wsX1_isNoNumber := goodIn_r _ [6, 7, 8, 5, 9, 10, 11, 12, 13, 14, 34, 35, 36, 37, 38, 39, 40] (by decide +kernel) (by decide +kernel)
set_option maxRecDepth 20000 in
theorem gX1_isStraight_X1_isNoNumber : GoodIn wsX1_isStraight (wsV RX1 35 RX1 yX1_isNoNumber wsX1_isNoNumber) := goodIn_app (goodIn_of _ (by decide +kernel)) ggX1_isStraight_X1_isNoNumber
set_option maxRecDepth 20000 in
theorem ggX1_isStraight_X1_isThrown : GoodIn wsX1_isStraight wsX1_isThrown := goodIn_r _ [13, 14, 34, 35, 36, 37, 38, 39, 40] (by decide +kernel) (by decide +kernel)
set_option maxRecDepth 20000 in
theorem gX1_isStraight_X1_isThrown : GoodIn wsX1_isStraight (wsV RX1 31 RX1 yX1_isThrown wsX1_isThrown) := goodIn_app (goodIn_of _ (by decide +kernel)) ggX1_isStraight_X1_isThrown
set_option maxRecDepth 20000 in
theorem ggX1_isStraight_X1_isNoLonger : GoodIn wsX1_isStraight wsX1_isNoLonger := goodIn_r _ [18, 19, 20, 21, 5, 22, 23, 24, 25, 26, 27, 28, 29, 30, 31, 32, 33, 34, 35, 36, 37, 38, 39, 40] (by decide +kernel) (by decide +kernel)
set_option maxRecDepth 20000 in
theorem gX1_isStraight_X1_isNoLonger : GoodIn wsX1_isStraight (wsV RX1 84 RX1 yX1_isNoLonger wsX1_isNoLonger) := goodIn_app (goodIn_of _ (by decide +kernel)) ggX1_isStraight_X1_isNoLonger
set_option maxRecDepth 20000 in
theorem ggX1_nearestTo_X1_grainsOf : GoodIn wsX1_nearestTo wsX1_grainsOf := goodIn_r _ [6, 7, 8, 9, 10, 11, 5, 12, 13, 14, 15, 16, 17, 18, 19, 20, 21, 22, 23, 24] (by decide +kernel) (by decide +kernel)
set_option maxRecDepth 20000 in
theorem gX1_nearestTo_X1_grainsOf : GoodIn wsX1_nearestTo (wsV RX1 80 RX1 yX1_grainsOf wsX1_grainsOf) := goodIn_app (goodIn_of _ (by decide +kernel)) ggX1_nearestTo_X1_grainsOf
set_option maxRecDepth 20000 in
theorem ggX1_nearest_X1_isNoPeg : GoodIn wsX1_nearest wsX1_isNoPeg := goodIn_r _ [5, 6, 7, 8, 9, 4, 10, 11, 12, 13, 14, 15, 16, 17, 18, 42, 43, 44, 45, 46, 47, 48] (by decide +kernel) (by decide +kernel)
set_option maxRecDepth 20000 in
theorem gX1_nearest_X1_isNoPeg : GoodIn wsX1_nearest (wsV RX1 63 RX1 yX1_isNoPeg wsX1_isNoPeg) := goodIn_app (goodIn_of _ (by decide +kernel)) ggX1_nearest_X1_isNoPeg
end
section
set_option maxRecDepth 20000 in
theorem ggX1_nearest_X1_count : GoodIn wsX1_nearest wsX1_count := goodIn_r _ [22, 6, 42, 43, 44, 45, 46, 47, 48] (by decide +kernel) (by decide +kernel)
set_option maxRecDepth 20000 in
theorem gX1_nearest_X1_count : GoodIn wsX1_nearest (wsV RX1 87 RX1 yX1_count wsX1_count) := goodIn_app (goodIn_of _ (by decide +kernel)) ggX1_nearest_X1_count
set_option maxRecDepth 20000 in
theorem ggX1_nearest_X1_isThrown : GoodIn wsX1_nearest wsX1_isThrown := goodIn_r _ [17, 18, 42, 43, 44, 45, 46, 47, 48] (by decide +kernel) (by decide +kernel)
set_option maxRecDepth 20000 in
theorem gX1_nearest_X1_isThrown : GoodIn wsX1_nearest (wsV RX1 31 RX1 yX1_isThrown wsX1_isThrown) := goodIn_app (goodIn_of _ (by decide +kernel)) ggX1_nearest_X1_isThrown
set_option maxRecDepth 20000 in
theorem ggX1_nearest_X1_nearestTo : GoodIn wsX1_nearest wsX1_nearestTo := goodIn_r _ [26, 6, 27, 28, 29, 4, 30, 31, 32, 33, 34, 35, 36, 37, 38, 39, 40, 41, 42, 43, 44, 45, 46, 47, 48] (by decide +kernel) (by decide +kernel)
set_option maxRecDepth 20000 in
theorem gX1_nearest_X1_nearestTo : GoodIn wsX1_nearest (wsV RX1 91 RX1 yX1_nearestTo wsX1_nearestTo) := goodIn_app (goodIn_of _ (by decide +kernel)) ggX1_nearest_X1_nearestTo
set_option maxRecDepth 20000 in
theorem ggX1_rank_X1_isNoPair : GoodIn wsX1_rank wsX1_isNoPair := goodIn_r _ [6, 1, 7, 8, 9, 5, 10, 11, 12, 13, 14, 15, 16, 17, 18, 34, 35, 36, 37, 38, 39, 40] (by decide +kernel) (by decide +kernel)
set_option maxRecDepth 20000 in
theorem gX1_rank_X1_isNoPair : GoodIn wsX1_rank (wsV RX1 76 RX1 yX1_isNoPair wsX1_isNoPair) := goodIn_app (goodIn_of _ (by decide +kernel)) ggX1_rank_X1_isNoPair
set_option maxRecDepth 20000 in
theorem ggX1_rank_X1_grainsOf : GoodIn wsX1_rank wsX1_grainsOf := goodIn_r _ [22, 23, 24, 25, 26, 27, 5, 28, 29, 30, 31, 32, 33, 34, 35, 36, 37, 38, 39, 40] (by decide +kernel) (by decide +kernel)
set_option maxRecDepth 20000 in
theorem gX1_rank_X1_grainsOf : GoodIn wsX1_rank (wsV RX1 80 RX1 yX1_grainsOf wsX1_grainsOf) := goodIn_app (goodIn_of _ (by decide +kernel)) ggX1_rank_X1_grainsOf
set_option maxRecDepth 20000 in
theorem ggX1_isIn_X1_isNoPair : GoodIn wsX1_isIn wsX1_isNoPair := goodIn_r _ [5, 6, 7, 8, 9, 4, 10, 11, 12, 13, 14, 15, 16, 17, 18, 41, 42, 43, 44, 45, 46, 47] (by decide +kernel) (by decide +kernel)
set_option maxRecDepth 20000 in
theorem gX1_isIn_X1_isNoPair : GoodIn wsX1_isIn (wsV RX1 76 RX1 yX1_isNoPair wsX1_isNoPair) := goodIn_app (goodIn_of _ (by decide +kernel)) ggX1_isIn_X1_isNoPair
set_option maxRecDepth 20000 in
theorem ggX1_isIn_X1_isNoAsked : GoodIn wsX1_isIn wsX1_isNoAsked := goodIn_r _ [22, 11, 12, 4, 13, 14, 15, 16, 17, 18, 41, 42, 43, 44, 45, 46, 47] (by decide +kernel) (by decide +kernel)
set_option maxRecDepth 20000 in
theorem gX1_isIn_X1_isNoAsked : GoodIn wsX1_isIn (wsV RX1 94 RX1 yX1_isNoAsked wsX1_isNoAsked) := goodIn_app (goodIn_of _ (by decide +kernel)) ggX1_isIn_X1_isNoAsked
set_option maxRecDepth 20000 in
theorem ggX1_isIn_X1_grainsOf : GoodIn wsX1_isIn wsX1_grainsOf := goodIn_r _ [26, 27, 28, 29, 30, 31, 4, 32, 33, 34, 35, 36, 37, 41, 42, 43, 44, 45, 46, 47] (by decide +kernel) (by decide +kernel)
set_option maxRecDepth 20000 in
theorem gX1_isIn_X1_grainsOf : GoodIn wsX1_isIn (wsV RX1 80 RX1 yX1_grainsOf wsX1_grainsOf) := goodIn_app (goodIn_of _ (by decide +kernel)) ggX1_isIn_X1_grainsOf
set_option maxRecDepth 20000 in
theorem ggX1_isIn_X1_rootGrainsOf : GoodIn wsX1_isIn wsX1_rootGrainsOf := goodIn_r _ [40, 30, 31, 4, 32, 33, 34, 35, 36, 37] (by decide +kernel) (by decide +kernel)
set_option maxRecDepth 20000 in
theorem gX1_isIn_X1_rootGrainsOf : GoodIn wsX1_isIn (va_wsS RX1 97 yX1_rootGrainsOf wsX1_rootGrainsOf) := goodIn_app (goodIn_of _ (by decide +kernel)) ggX1_isIn_X1_rootGrainsOf
set_option maxRecDepth 20000 in
theorem ggX1_root_X1_isNoAsked : GoodIn wsX1_root wsX1_isNoAsked := goodIn_r _ [6, 7, 8, 5, 9, 10, 11, 12, 13, 14, 26, 27, 28, 29, 30, 31, 32] (by decide +kernel) (by decide +kernel)
set_option maxRecDepth 20000 in
theorem gX1_root_X1_isNoAsked : GoodIn wsX1_root (wsV RX1 94 RX1 yX1_isNoAsked wsX1_isNoAsked) := goodIn_app (goodIn_of _ (by decide +kernel)) ggX1_root_X1_isNoAsked
set_option maxRecDepth 20000 in
theorem ggX1_root_X1_powerOf : GoodIn wsX1_root wsX1_powerOf := goodIn_r _ [17, 18, 19, 5, 20, 21, 22] (by decide +kernel) (by decide +kernel)
set_option maxRecDepth 20000 in
theorem gX1_root_X1_powerOf : GoodIn wsX1_root (va_wsS RX1 47 yX1_powerOf wsX1_powerOf) := goodIn_app (goodIn_of _ (by decide +kernel)) ggX1_root_X1_powerOf
set_option maxRecDepth 20000 in
theorem ggX1_root_X1_near : GoodIn wsX1_root wsX1_near := goodIn_r _ [25, 22, 18, 19, 5, 20, 21] (by decide +kernel) (by decide +kernel)
set_option maxRecDepth 20000 in
theorem gX1_root_X1_near : GoodIn wsX1_root (va_wsS RX1 55 yX1_near wsX1_near) := goodIn_app (goodIn_of _ (by decide +kernel)) ggX1_root_X1_near
set_option maxRecDepth 20000 in
theorem ggX1_rootBits_X1_isNoAsked : GoodIn wsX1_rootBits wsX1_isNoAsked := goodIn_r _ [5, 6, 7, 4, 8, 9, 10, 11, 12, 13, 31, 32, 33, 34, 35, 36, 37] (by decide +kernel) (by decide +kernel)
set_option maxRecDepth 20000 in
theorem gX1_rootBits_X1_isNoAsked : GoodIn wsX1_rootBits (wsV RX1 94 RX1 yX1_isNoAsked wsX1_isNoAsked) := goodIn_app (goodIn_of _ (by decide +kernel)) ggX1_rootBits_X1_isNoAsked
set_option maxRecDepth 20000 in
theorem ggX1_rootBits_X1_bitsOf : GoodIn wsX1_rootBits wsX1_bitsOf := goodIn_r _ [16, 17, 18, 19, 20, 21, 4, 22, 23, 24, 25, 26, 27, 28, 29, 30] (by decide +kernel) (by decide +kernel)
set_option maxRecDepth 20000 in
theorem gX1_rootBits_X1_bitsOf : GoodIn wsX1_rootBits (va_wsS RX1 103 yX1_bitsOf wsX1_bitsOf) := goodIn_app (goodIn_of _ (by decide +kernel)) ggX1_rootBits_X1_bitsOf
set_option maxRecDepth 20000 in
theorem ggX1_rootGrains_X1_isNoAsked : GoodIn wsX1_rootGrains wsX1_isNoAsked := goodIn_r _ [5, 6, 7, 4, 8, 9, 10, 11, 12, 13, 25, 26, 27, 28, 29, 30, 31] (by decide +kernel) (by decide +kernel)
set_option maxRecDepth 20000 in
theorem gX1_rootGrains_X1_isNoAsked : GoodIn wsX1_rootGrains (wsV RX1 94 RX1 yX1_isNoAsked wsX1_isNoAsked) := goodIn_app (goodIn_of _ (by decide +kernel)) ggX1_rootGrains_X1_isNoAsked
set_option maxRecDepth 20000 in
theorem ggX1_rootGrains_X1_rootGrainsOf : GoodIn wsX1_rootGrains wsX1_rootGrainsOf := goodIn_r _ [16, 17, 18, 4, 19, 20, 21, 22, 23, 24] (by decide +kernel) (by decide +kernel)
set_option maxRecDepth 20000 in
theorem gX1_rootGrains_X1_rootGrainsOf : GoodIn wsX1_rootGrains (va_wsS RX1 97 yX1_rootGrainsOf wsX1_rootGrainsOf) := goodIn_app (goodIn_of _ (by decide +kernel)) ggX1_rootGrains_X1_rootGrainsOf
set_option maxRecDepth 20000 in
theorem ggX1_wholeRoot_X1_isNoAsked : GoodIn wsX1_wholeRoot wsX1_isNoAsked := goodIn_r _ [5, 6, 7, 4, 8, 9, 10, 11, 12, 13, 22, 23, 24, 25, 26, 27, 28] (by decide +kernel) (by decide +kernel)
set_option maxRecDepth 20000 in
theorem gX1_wholeRoot_X1_isNoAsked : GoodIn wsX1_wholeRoot (wsV RX1 94 RX1 yX1_isNoAsked wsX1_isNoAsked) := goodIn_app (goodIn_of _ (by decide +kernel)) ggX1_wholeRoot_X1_isNoAsked
set_option maxRecDepth 20000 in
theorem ggX1_wholeRoot_X1_wholeOf : GoodIn wsX1_wholeRoot wsX1_wholeOf := goodIn_r _ [16, 17, 18, 4, 19, 20, 21] (by decide +kernel) (by decide +kernel)
set_option maxRecDepth 20000 in
theorem gX1_wholeRoot_X1_wholeOf : GoodIn wsX1_wholeRoot (va_wsS RX1 107 yX1_wholeOf wsX1_wholeOf) := goodIn_app (goodIn_of _ (by decide +kernel)) ggX1_wholeRoot_X1_wholeOf
set_option maxRecDepth 20000 in
theorem ggX1_isNearest_X1_isNoAsked : GoodIn wsX1_isNearest wsX1_isNoAsked := goodIn_r _ [5, 6, 7, 4, 8, 9, 10, 11, 12, 13, 14, 15, 16, 17, 18, 19, 20] (by decide +kernel) (by decide +kernel)
set_option maxRecDepth 20000 in
theorem gX1_isNearest_X1_isNoAsked : GoodIn wsX1_isNearest (wsV RX1 94 RX1 yX1_isNoAsked wsX1_isNoAsked) := goodIn_app (goodIn_of _ (by decide +kernel)) ggX1_isNearest_X1_isNoAsked
set_option maxRecDepth 20000 in
theorem ggX1_isHalved_X1_isNoAsked : GoodIn wsX1_isHalved wsX1_isNoAsked := goodIn_r _ [5, 6, 7, 4, 8, 9, 10, 11, 12, 13, 14, 15, 16, 17, 18, 19, 20] (by decide +kernel) (by decide +kernel)
set_option maxRecDepth 20000 in
theorem gX1_isHalved_X1_isNoAsked : GoodIn wsX1_isHalved (wsV RX1 94 RX1 yX1_isNoAsked wsX1_isNoAsked) := goodIn_app (goodIn_of _ (by decide +kernel)) ggX1_isHalved_X1_isNoAsked
set_option maxRecDepth 20000 in
theorem ggX1_between_X1_isNoAsked : GoodIn wsX1_between wsX1_isNoAsked := goodIn_r _ [5, 6, 7, 4, 8, 9, 10, 11, 12, 13, 22, 23, 24, 25, 26, 27, 28] (by decide +kernel) (by decide +kernel)
set_option maxRecDepth 20000 in
theorem gX1_between_X1_isNoAsked : GoodIn wsX1_between (wsV RX1 94 RX1 yX1_isNoAsked wsX1_isNoAsked) := goodIn_app (goodIn_of _ (by decide +kernel)) ggX1_between_X1_isNoAsked
set_option maxRecDepth 20000 in
theorem ggX1_between_X1_wholeOf : GoodIn wsX1_between wsX1_wholeOf := goodIn_r _ [16, 17, 18, 4, 19, 20, 21] (by decide +kernel) (by decide +kernel)
set_option maxRecDepth 20000 in
theorem gX1_between_X1_wholeOf : GoodIn wsX1_between (va_wsS RX1 107 yX1_wholeOf wsX1_wholeOf) := goodIn_app (goodIn_of _ (by decide +kernel)) ggX1_between_X1_wholeOf
set_option maxRecDepth 20000 in
theorem ggX1_join_X1_isNoPeg : GoodIn wsX1_join wsX1_isNoPeg := goodIn_r _ [7, 8, 9, 10, 11, 6, 12, 13, 14, 15, 16, 17, 18, 19, 20, 21, 22, 23, 24, 25, 26, 27] (by decide +kernel) (by decide +kernel)
set_option maxRecDepth 20000 in
theorem gX1_join_X1_isNoPeg : GoodIn wsX1_join (wsV RX1 63 RX1 yX1_isNoPeg wsX1_isNoPeg) := goodIn_app (goodIn_of _ (by decide +kernel)) ggX1_join_X1_isNoPeg
set_option maxRecDepth 20000 in
theorem ggX1_join_X1_isThrown : GoodIn wsX1_join wsX1_isThrown := goodIn_r _ [19, 20, 21, 22, 23, 24, 25, 26, 27] (by decide +kernel) (by decide +kernel)
set_option maxRecDepth 20000 in
theorem gX1_join_X1_isThrown : GoodIn wsX1_join (wsV RX1 31 RX1 yX1_isThrown wsX1_isThrown) := goodIn_app (goodIn_of _ (by decide +kernel)) ggX1_join_X1_isThrown
set_option maxRecDepth 20000 in
theorem ggX1_unjoin_X1_isThrown : GoodIn wsX1_unjoin wsX1_isThrown := goodIn_r _ [7, 8, 9, 10, 11, 12, 13, 14, 15] (by decide +kernel) (by decide +kernel)
set_option maxRecDepth 20000 in
theorem gX1_unjoin_X1_isThrown : GoodIn wsX1_unjoin (wsV RX1 31 RX1 yX1_isThrown wsX1_isThrown) := goodIn_app (goodIn_of _ (by decide +kernel)) ggX1_unjoin_X1_isThrown
set_option maxRecDepth 20000 in
theorem ggX1_ringAt_X1_lies : GoodIn wsX1_ringAt wsX1_lies := goodIn_r _ [6] (by decide +kernel) (by decide +kernel)
set_option maxRecDepth 20000 in
theorem gX1_ringAt_X1_lies : GoodIn wsX1_ringAt (va_wsS RX1 27 yX1_lies wsX1_lies) := goodIn_app (goodIn_of _ (by decide +kernel)) ggX1_ringAt_X1_lies
set_option maxRecDepth 20000 in
theorem ggX1_ringAt_X1_isThrown : GoodIn wsX1_ringAt wsX1_isThrown := goodIn_r _ [10, 11, 12, 13, 14, 15, 16, 17, 18] (by decide +kernel) (by decide +kernel)
set_option maxRecDepth 20000 in
theorem gX1_ringAt_X1_isThrown : GoodIn wsX1_ringAt (wsV RX1 31 RX1 yX1_isThrown wsX1_isThrown) := goodIn_app (goodIn_of _ (by decide +kernel)) ggX1_ringAt_X1_isThrown
set_option maxRecDepth 20000 in
theorem ggX1_around_X1_behind : GoodIn wsX1_around wsX1_behind := goodIn_r _ [7, 2, 1, 23, 24, 25, 26, 27, 28, 29] (by decide +kernel) (by decide +kernel)
set_option maxRecDepth 20000 in
theorem gX1_around_X1_behind : GoodIn wsX1_around (wsV RX1 110 RX1 yX1_behind wsX1_behind) := goodIn_app (goodIn_of _ (by decide +kernel)) ggX1_around_X1_behind
set_option maxRecDepth 20000 in
theorem ggX1_around_X1_grainsOf : GoodIn wsX1_around wsX1_grainsOf := goodIn_r _ [11, 12, 13, 14, 15, 16, 6, 17, 18, 19, 20, 21, 22, 23, 24, 25, 26, 27, 28, 29] (by decide +kernel) (by decide +kernel)
set_option maxRecDepth 20000 in
theorem gX1_around_X1_grainsOf : GoodIn wsX1_around (wsV RX1 80 RX1 yX1_grainsOf wsX1_grainsOf) := goodIn_app (goodIn_of _ (by decide +kernel)) ggX1_around_X1_grainsOf
set_option maxRecDepth 20000 in
theorem ggX1_doubleArea_X1_behind : GoodIn wsX1_doubleArea wsX1_behind := goodIn_r _ [9, 3, 1, 10, 11, 12, 13, 14, 15, 16] (by decide +kernel) (by decide +kernel)
set_option maxRecDepth 20000 in
theorem gX1_doubleArea_X1_behind : GoodIn wsX1_doubleArea (wsV RX1 110 RX1 yX1_behind wsX1_behind) := goodIn_app (goodIn_of _ (by decide +kernel)) ggX1_doubleArea_X1_behind
set_option maxRecDepth 20000 in
theorem ggX1_sideBits_X1_doubleArea : GoodIn wsX1_sideBits wsX1_doubleArea := goodIn_r _ [5, 6, 7, 8, 9, 10, 11, 12, 4, 13, 36, 37, 38, 39, 40, 41, 42] (by decide +kernel) (by decide +kernel)
set_option maxRecDepth 20000 in
theorem gX1_sideBits_X1_doubleArea : GoodIn wsX1_sideBits (wsV RX1 113 RX1 yX1_doubleArea wsX1_doubleArea) := goodIn_app (goodIn_of _ (by decide +kernel)) ggX1_sideBits_X1_doubleArea
set_option maxRecDepth 20000 in
theorem ggX1_sideBits_X1_isThrown : GoodIn wsX1_sideBits wsX1_isThrown := goodIn_r _ [17, 18, 36, 37, 38, 39, 40, 41, 42] (by decide +kernel) (by decide +kernel)
set_option maxRecDepth 20000 in
theorem gX1_sideBits_X1_isThrown : GoodIn wsX1_sideBits (wsV RX1 31 RX1 yX1_isThrown wsX1_isThrown) := goodIn_app (goodIn_of _ (by decide +kernel)) ggX1_sideBits_X1_isThrown
set_option maxRecDepth 20000 in
theorem ggX1_sideBits_X1_bitsOf : GoodIn wsX1_sideBits wsX1_bitsOf := goodIn_r _ [21, 22, 23, 24, 25, 26, 4, 27, 28, 29, 30, 31, 32, 33, 34, 35] (by decide +kernel) (by decide +kernel)
set_option maxRecDepth 20000 in
theorem gX1_sideBits_X1_bitsOf : GoodIn wsX1_sideBits (va_wsS RX1 103 yX1_bitsOf wsX1_bitsOf) := goodIn_app (goodIn_of _ (by decide +kernel)) ggX1_sideBits_X1_bitsOf
set_option maxRecDepth 20000 in
theorem ggX1_checksum_X1_placed : GoodIn wsX1_checksum wsX1_placed := goodIn_r _ [11, 12, 13, 38, 39, 40, 41, 42, 43, 44] (by decide +kernel) (by decide +kernel)
set_option maxRecDepth 20000 in
theorem gX1_checksum_X1_placed : GoodIn wsX1_checksum (wsV RX1 69 RX1 yX1_placed wsX1_placed) := goodIn_app (goodIn_of _ (by decide +kernel)) ggX1_checksum_X1_placed
set_option maxRecDepth 20000 in
theorem ggX1_checksum_X1_nearestTo : GoodIn wsX1_checksum wsX1_nearestTo := goodIn_r _ [17, 2, 18, 19, 20, 10, 21, 13, 12, 6, 22, 23, 24, 25, 26, 27, 28, 29, 38, 39, 40, 41, 42, 43, 44] (by decide +kernel) (by decide +kernel)
set_option maxRecDepth 20000 in
theorem gX1_checksum_X1_nearestTo : GoodIn wsX1_checksum (wsV RX1 91 RX1 yX1_nearestTo wsX1_nearestTo) := goodIn_app (goodIn_of _ (by decide +kernel)) ggX1_checksum_X1_nearestTo
set_option maxRecDepth 20000 in
theorem ggX1_checksum_X1_around : GoodIn wsX1_checksum wsX1_around := goodIn_r _ [33, 4, 5, 34, 35, 36, 10, 37, 18, 19, 20, 21, 13, 12, 6, 22, 23, 24, 25, 26, 27, 28, 29, 38, 39, 40, 41, 42, 43, 44] (by decide +kernel) (by decide +kernel)
set_option maxRecDepth 20000 in
theorem gX1_checksum_X1_around : GoodIn wsX1_checksum (wsV RX1 120 RX1 yX1_around wsX1_around) := goodIn_app (goodIn_of _ (by decide +kernel)) ggX1_checksum_X1_around
set_option maxRecDepth 20000 in
theorem ggX1_isSound_X1_isNoLonger : GoodIn wsX1_isSound wsX1_isNoLonger := goodIn_r _ [6, 7, 8, 9, 5, 10, 11, 12, 13, 14, 15, 16, 17, 18, 19, 20, 21, 22, 23, 24, 25, 26, 27, 28] (by decide +kernel) (by decide +kernel)
set_option maxRecDepth 20000 in
theorem gX1_isSound_X1_isNoLonger : GoodIn wsX1_isSound (wsV RX1 84 RX1 yX1_isNoLonger wsX1_isNoLonger) := goodIn_app (goodIn_of _ (by decide +kernel)) ggX1_isSound_X1_isNoLonger
end
section
theorem dJ9_abs_0f7a4_0 : decode cJ9_abs_0f7a4 0 = .ok (.iload_n 0, 1) := by decide +kernel
theorem dJ9_abs_0f7a4_1 : decode cJ9_abs_0f7a4 1 = .ok (.ifCond .ge 8, 3) := by decide +kernel
theorem dJ9_abs_0f7a4_4 : decode cJ9_abs_0f7a4 4 = .ok (.iload_n 0, 1) := by decide +kernel
theorem dJ9_abs_0f7a4_5 : decode cJ9_abs_0f7a4 5 = .ok (.ineg, 1) := by decide +kernel
theorem dJ9_abs_0f7a4_6 : decode cJ9_abs_0f7a4 6 = .ok (.goto 4, 3) := by decide +kernel
theorem dJ9_abs_0f7a4_9 : decode cJ9_abs_0f7a4 9 = .ok (.iload_n 0, 1) := by decide +kernel
theorem dJ9_abs_0f7a4_10 : decode cJ9_abs_0f7a4 10 = .ok (.ireturn, 1) := by decide +kernel
end
section
theorem dL_put_0 : decode cL_put 0 = .ok (.aload 4, 2) := by decide +kernel
theorem dL_put_2 : decode cL_put 2 = .ok (.iconst 0, 1) := by decide +kernel
theorem dL_put_3 : decode cL_put 3 = .ok (.aload_n 0, 1) := by decide +kernel
theorem dL_put_4 : decode cL_put 4 = .ok (.iload_n 1, 1) := by decide +kernel
theorem dL_put_5 : decode cL_put 5 = .ok (.iload_n 2, 1) := by decide +kernel
theorem dL_put_6 : decode cL_put 6 = .ok (.iload_n 3, 1) := by decide +kernel
theorem dL_put_7 : decode cL_put 7 = .ok (.invokevirtual 7, 3) := by decide +kernel
theorem dL_put_10 : decode cL_put 10 = .ok (.ifCond .eq 7, 3) := by decide +kernel
theorem dL_put_13 : decode cL_put 13 = .ok (.lconst 1, 1) := by decide +kernel
theorem dL_put_14 : decode cL_put 14 = .ok (.goto 4, 3) := by decide +kernel
theorem dL_put_17 : decode cL_put 17 = .ok (.lconst 0, 1) := by decide +kernel
theorem dL_put_18 : decode cL_put 18 = .ok (.lastore, 1) := by decide +kernel
theorem dL_put_19 : decode cL_put 19 = .ok (.goto 11, 3) := by decide +kernel
theorem dL_put_22 : decode cL_put 22 = .ok (.astore 5, 2) := by decide +kernel
theorem dL_put_24 : decode cL_put 24 = .ok (.iconst 1, 1) := by decide +kernel
theorem dL_put_25 : decode cL_put 25 = .ok (.ireturn, 1) := by decide +kernel
theorem dL_put_26 : decode cL_put 26 = .ok (.astore 5, 2) := by decide +kernel
theorem dL_put_28 : decode cL_put 28 = .ok (.iconst 2, 1) := by decide +kernel
theorem dL_put_29 : decode cL_put 29 = .ok (.ireturn, 1) := by decide +kernel
theorem dL_put_30 : decode cL_put 30 = .ok (.iconst 0, 1) := by decide +kernel
theorem dL_put_31 : decode cL_put 31 = .ok (.ireturn, 1) := by decide +kernel
theorem dL_take_0 : decode cL_take 0 = .ok (.aload_n 0, 1) := by decide +kernel
theorem dL_take_1 : decode cL_take 1 = .ok (.iload_n 1, 1) := by decide +kernel
theorem dL_take_2 : decode cL_take 2 = .ok (.invokevirtual 17, 3) := by decide +kernel
theorem dL_take_5 : decode cL_take 5 = .ok (.goto 12, 3) := by decide +kernel
theorem dL_take_8 : decode cL_take 8 = .ok (.astore_n 2, 1) := by decide +kernel
theorem dL_take_9 : decode cL_take 9 = .ok (.iconst 1, 1) := by decide +kernel
theorem dL_take_10 : decode cL_take 10 = .ok (.ireturn, 1) := by decide +kernel
theorem dL_take_11 : decode cL_take 11 = .ok (.astore_n 2, 1) := by decide +kernel
theorem dL_take_12 : decode cL_take 12 = .ok (.iconst 2, 1) := by decide +kernel
theorem dL_take_13 : decode cL_take 13 = .ok (.ireturn, 1) := by decide +kernel
theorem dL_take_14 : decode cL_take 14 = .ok (.astore_n 2, 1) := by decide +kernel
theorem dL_take_15 : decode cL_take 15 = .ok (.iconst 3, 1) := by decide +kernel
theorem dL_take_16 : decode cL_take 16 = .ok (.ireturn, 1) := by decide +kernel
theorem dL_take_17 : decode cL_take 17 = .ok (.iconst 0, 1) := by decide +kernel
theorem dL_take_18 : decode cL_take 18 = .ok (.ireturn, 1) := by decide +kernel
theorem dL_step_0 : decode cL_step 0 = .ok (.aload_n 3, 1) := by decide +kernel
theorem dL_step_1 : decode cL_step 1 = .ok (.iconst 0, 1) := by decide +kernel
theorem dL_step_2 : decode cL_step 2 = .ok (.aload_n 0, 1) := by decide +kernel
theorem dL_step_3 : decode cL_step 3 = .ok (.iload_n 1, 1) := by decide +kernel
theorem dL_step_4 : decode cL_step 4 = .ok (.iload_n 2, 1) := by decide +kernel
theorem dL_step_5 : decode cL_step 5 = .ok (.invokevirtual 25, 3) := by decide +kernel
theorem dL_step_8 : decode cL_step 8 = .ok (.ifCond .eq 7, 3) := by decide +kernel
theorem dL_step_11 : decode cL_step 11 = .ok (.lconst 1, 1) := by decide +kernel
theorem dL_step_12 : decode cL_step 12 = .ok (.goto 4, 3) := by decide +kernel
theorem dL_step_15 : decode cL_step 15 = .ok (.lconst 0, 1) := by decide +kernel
theorem dL_step_16 : decode cL_step 16 = .ok (.lastore, 1) := by decide +kernel
theorem dL_step_17 : decode cL_step 17 = .ok (.goto 15, 3) := by decide +kernel
theorem dL_step_20 : decode cL_step 20 = .ok (.astore 4, 2) := by decide +kernel
theorem dL_step_22 : decode cL_step 22 = .ok (.iconst 1, 1) := by decide +kernel
theorem dL_step_23 : decode cL_step 23 = .ok (.ireturn, 1) := by decide +kernel
theorem dL_step_24 : decode cL_step 24 = .ok (.astore 4, 2) := by decide +kernel
theorem dL_step_26 : decode cL_step 26 = .ok (.iconst 2, 1) := by decide +kernel
theorem dL_step_27 : decode cL_step 27 = .ok (.ireturn, 1) := by decide +kernel
theorem dL_step_28 : decode cL_step 28 = .ok (.astore 4, 2) := by decide +kernel
theorem dL_step_30 : decode cL_step 30 = .ok (.iconst 3, 1) := by decide +kernel
theorem dL_step_31 : decode cL_step 31 = .ok (.ireturn, 1) := by decide +kernel
theorem dL_step_32 : decode cL_step 32 = .ok (.iconst 0, 1) := by decide +kernel
theorem dL_step_33 : decode cL_step 33 = .ok (.ireturn, 1) := by decide +kernel
theorem dL_isThere_0 : decode cL_isThere 0 = .ok (.aload_n 2, 1) := by decide +kernel
theorem dL_isThere_1 : decode cL_isThere 1 = .ok (.iconst 0, 1) := by decide +kernel
theorem dL_isThere_2 : decode cL_isThere 2 = .ok (.aload_n 0, 1) := by decide +kernel
theorem dL_isThere_3 : decode cL_isThere 3 = .ok (.iload_n 1, 1) := by decide +kernel
theorem dL_isThere_4 : decode cL_isThere 4 = .ok (.invokevirtual 29, 3) := by decide +kernel
theorem dL_isThere_7 : decode cL_isThere 7 = .ok (.ifCond .eq 7, 3) := by decide +kernel
theorem dL_isThere_10 : decode cL_isThere 10 = .ok (.lconst 1, 1) := by decide +kernel
theorem dL_isThere_11 : decode cL_isThere 11 = .ok (.goto 4, 3) := by decide +kernel
theorem dL_isThere_14 : decode cL_isThere 14 = .ok (.lconst 0, 1) := by decide +kernel
theorem dL_isThere_15 : decode cL_isThere 15 = .ok (.lastore, 1) := by decide +kernel
theorem dL_isThere_16 : decode cL_isThere 16 = .ok (.goto 6, 3) := by decide +kernel
theorem dL_isThere_19 : decode cL_isThere 19 = .ok (.astore_n 3, 1) := by decide +kernel
theorem dL_isThere_20 : decode cL_isThere 20 = .ok (.iconst 1, 1) := by decide +kernel
theorem dL_isThere_21 : decode cL_isThere 21 = .ok (.ireturn, 1) := by decide +kernel
theorem dL_isThere_22 : decode cL_isThere 22 = .ok (.iconst 0, 1) := by decide +kernel
theorem dL_isThere_23 : decode cL_isThere 23 = .ok (.ireturn, 1) := by decide +kernel
theorem dL_placeOf_0 : decode cL_placeOf 0 = .ok (.aload_n 2, 1) := by decide +kernel
theorem dL_placeOf_1 : decode cL_placeOf 1 = .ok (.iconst 0, 1) := by decide +kernel
theorem dL_placeOf_2 : decode cL_placeOf 2 = .ok (.aload_n 0, 1) := by decide +kernel
theorem dL_placeOf_3 : decode cL_placeOf 3 = .ok (.iload_n 1, 1) := by decide +kernel
theorem dL_placeOf_4 : decode cL_placeOf 4 = .ok (.invokevirtual 33, 3) := by decide +kernel
theorem dL_placeOf_7 : decode cL_placeOf 7 = .ok (.i2l, 1) := by decide +kernel
theorem dL_placeOf_8 : decode cL_placeOf 8 = .ok (.lastore, 1) := by decide +kernel
theorem dL_placeOf_9 : decode cL_placeOf 9 = .ok (.goto 9, 3) := by decide +kernel
theorem dL_placeOf_12 : decode cL_placeOf 12 = .ok (.astore_n 3, 1) := by decide +kernel
theorem dL_placeOf_13 : decode cL_placeOf 13 = .ok (.iconst 1, 1) := by decide +kernel
theorem dL_placeOf_14 : decode cL_placeOf 14 = .ok (.ireturn, 1) := by decide +kernel
theorem dL_placeOf_15 : decode cL_placeOf 15 = .ok (.astore_n 3, 1) := by decide +kernel
theorem dL_placeOf_16 : decode cL_placeOf 16 = .ok (.iconst 2, 1) := by decide +kernel
theorem dL_placeOf_17 : decode cL_placeOf 17 = .ok (.ireturn, 1) := by decide +kernel
theorem dL_placeOf_18 : decode cL_placeOf 18 = .ok (.iconst 0, 1) := by decide +kernel
theorem dL_placeOf_19 : decode cL_placeOf 19 = .ok (.ireturn, 1) := by decide +kernel
theorem dL_stretch_0 : decode cL_stretch 0 = .ok (.aload_n 3, 1) := by decide +kernel
theorem dL_stretch_1 : decode cL_stretch 1 = .ok (.iconst 0, 1) := by decide +kernel
theorem dL_stretch_2 : decode cL_stretch 2 = .ok (.aload_n 0, 1) := by decide +kernel
theorem dL_stretch_3 : decode cL_stretch 3 = .ok (.iload_n 1, 1) := by decide +kernel
theorem dL_stretch_4 : decode cL_stretch 4 = .ok (.iload_n 2, 1) := by decide +kernel
theorem dL_stretch_5 : decode cL_stretch 5 = .ok (.invokevirtual 37, 3) := by decide +kernel
theorem dL_stretch_8 : decode cL_stretch 8 = .ok (.i2l, 1) := by decide +kernel
theorem dL_stretch_9 : decode cL_stretch 9 = .ok (.lastore, 1) := by decide +kernel
theorem dL_stretch_10 : decode cL_stretch 10 = .ok (.goto 11, 3) := by decide +kernel
theorem dL_stretch_13 : decode cL_stretch 13 = .ok (.astore 4, 2) := by decide +kernel
theorem dL_stretch_15 : decode cL_stretch 15 = .ok (.iconst 1, 1) := by decide +kernel
theorem dL_stretch_16 : decode cL_stretch 16 = .ok (.ireturn, 1) := by decide +kernel
theorem dL_stretch_17 : decode cL_stretch 17 = .ok (.astore 4, 2) := by decide +kernel
theorem dL_stretch_19 : decode cL_stretch 19 = .ok (.iconst 2, 1) := by decide +kernel
theorem dL_stretch_20 : decode cL_stretch 20 = .ok (.ireturn, 1) := by decide +kernel
theorem dL_stretch_21 : decode cL_stretch 21 = .ok (.iconst 0, 1) := by decide +kernel
theorem dL_stretch_22 : decode cL_stretch 22 = .ok (.ireturn, 1) := by decide +kernel
theorem dL_isSteady_0 : decode cL_isSteady 0 = .ok (.aload_n 3, 1) := by decide +kernel
theorem dL_isSteady_1 : decode cL_isSteady 1 = .ok (.iconst 0, 1) := by decide +kernel
theorem dL_isSteady_2 : decode cL_isSteady 2 = .ok (.aload_n 0, 1) := by decide +kernel
theorem dL_isSteady_3 : decode cL_isSteady 3 = .ok (.iload_n 1, 1) := by decide +kernel
theorem dL_isSteady_4 : decode cL_isSteady 4 = .ok (.iload_n 2, 1) := by decide +kernel
theorem dL_isSteady_5 : decode cL_isSteady 5 = .ok (.invokevirtual 41, 3) := by decide +kernel
theorem dL_isSteady_8 : decode cL_isSteady 8 = .ok (.ifCond .eq 7, 3) := by decide +kernel
theorem dL_isSteady_11 : decode cL_isSteady 11 = .ok (.lconst 1, 1) := by decide +kernel
theorem dL_isSteady_12 : decode cL_isSteady 12 = .ok (.goto 4, 3) := by decide +kernel
theorem dL_isSteady_15 : decode cL_isSteady 15 = .ok (.lconst 0, 1) := by decide +kernel
theorem dL_isSteady_16 : decode cL_isSteady 16 = .ok (.lastore, 1) := by decide +kernel
theorem dL_isSteady_17 : decode cL_isSteady 17 = .ok (.goto 11, 3) := by decide +kernel
theorem dL_isSteady_20 : decode cL_isSteady 20 = .ok (.astore 4, 2) := by decide +kernel
theorem dL_isSteady_22 : decode cL_isSteady 22 = .ok (.iconst 1, 1) := by decide +kernel
theorem dL_isSteady_23 : decode cL_isSteady 23 = .ok (.ireturn, 1) := by decide +kernel
theorem dL_isSteady_24 : decode cL_isSteady 24 = .ok (.astore 4, 2) := by decide +kernel
theorem dL_isSteady_26 : decode cL_isSteady 26 = .ok (.iconst 2, 1) := by decide +kernel
theorem dL_isSteady_27 : decode cL_isSteady 27 = .ok (.ireturn, 1) := by decide +kernel
theorem dL_isSteady_28 : decode cL_isSteady 28 = .ok (.iconst 0, 1) := by decide +kernel
theorem dL_isSteady_29 : decode cL_isSteady 29 = .ok (.ireturn, 1) := by decide +kernel
theorem dL_isDoubled_0 : decode cL_isDoubled 0 = .ok (.aload_n 3, 1) := by decide +kernel
theorem dL_isDoubled_1 : decode cL_isDoubled 1 = .ok (.iconst 0, 1) := by decide +kernel
theorem dL_isDoubled_2 : decode cL_isDoubled 2 = .ok (.aload_n 0, 1) := by decide +kernel
theorem dL_isDoubled_3 : decode cL_isDoubled 3 = .ok (.iload_n 1, 1) := by decide +kernel
theorem dL_isDoubled_4 : decode cL_isDoubled 4 = .ok (.iload_n 2, 1) := by decide +kernel
theorem dL_isDoubled_5 : decode cL_isDoubled 5 = .ok (.invokevirtual 45, 3) := by decide +kernel
theorem dL_isDoubled_8 : decode cL_isDoubled 8 = .ok (.ifCond .eq 7, 3) := by decide +kernel
theorem dL_isDoubled_11 : decode cL_isDoubled 11 = .ok (.lconst 1, 1) := by decide +kernel
theorem dL_isDoubled_12 : decode cL_isDoubled 12 = .ok (.goto 4, 3) := by decide +kernel
theorem dL_isDoubled_15 : decode cL_isDoubled 15 = .ok (.lconst 0, 1) := by decide +kernel
theorem dL_isDoubled_16 : decode cL_isDoubled 16 = .ok (.lastore, 1) := by decide +kernel
theorem dL_isDoubled_17 : decode cL_isDoubled 17 = .ok (.goto 11, 3) := by decide +kernel
theorem dL_isDoubled_20 : decode cL_isDoubled 20 = .ok (.astore 4, 2) := by decide +kernel
theorem dL_isDoubled_22 : decode cL_isDoubled 22 = .ok (.iconst 1, 1) := by decide +kernel
theorem dL_isDoubled_23 : decode cL_isDoubled 23 = .ok (.ireturn, 1) := by decide +kernel
theorem dL_isDoubled_24 : decode cL_isDoubled 24 = .ok (.astore 4, 2) := by decide +kernel
theorem dL_isDoubled_26 : decode cL_isDoubled 26 = .ok (.iconst 2, 1) := by decide +kernel
theorem dL_isDoubled_27 : decode cL_isDoubled 27 = .ok (.ireturn, 1) := by decide +kernel
theorem dL_isDoubled_28 : decode cL_isDoubled 28 = .ok (.iconst 0, 1) := by decide +kernel
theorem dL_isDoubled_29 : decode cL_isDoubled 29 = .ok (.ireturn, 1) := by decide +kernel
theorem dL_isClose_0 : decode cL_isClose 0 = .ok (.aload_n 3, 1) := by decide +kernel
theorem dL_isClose_1 : decode cL_isClose 1 = .ok (.iconst 0, 1) := by decide +kernel
theorem dL_isClose_2 : decode cL_isClose 2 = .ok (.aload_n 0, 1) := by decide +kernel
theorem dL_isClose_3 : decode cL_isClose 3 = .ok (.iload_n 1, 1) := by decide +kernel
theorem dL_isClose_4 : decode cL_isClose 4 = .ok (.iload_n 2, 1) := by decide +kernel
theorem dL_isClose_5 : decode cL_isClose 5 = .ok (.invokevirtual 48, 3) := by decide +kernel
theorem dL_isClose_8 : decode cL_isClose 8 = .ok (.ifCond .eq 7, 3) := by decide +kernel
theorem dL_isClose_11 : decode cL_isClose 11 = .ok (.lconst 1, 1) := by decide +kernel
theorem dL_isClose_12 : decode cL_isClose 12 = .ok (.goto 4, 3) := by decide +kernel
theorem dL_isClose_15 : decode cL_isClose 15 = .ok (.lconst 0, 1) := by decide +kernel
theorem dL_isClose_16 : decode cL_isClose 16 = .ok (.lastore, 1) := by decide +kernel
theorem dL_isClose_17 : decode cL_isClose 17 = .ok (.goto 11, 3) := by decide +kernel
theorem dL_isClose_20 : decode cL_isClose 20 = .ok (.astore 4, 2) := by decide +kernel
theorem dL_isClose_22 : decode cL_isClose 22 = .ok (.iconst 1, 1) := by decide +kernel
theorem dL_isClose_23 : decode cL_isClose 23 = .ok (.ireturn, 1) := by decide +kernel
theorem dL_isClose_24 : decode cL_isClose 24 = .ok (.astore 4, 2) := by decide +kernel
theorem dL_isClose_26 : decode cL_isClose 26 = .ok (.iconst 2, 1) := by decide +kernel
theorem dL_isClose_27 : decode cL_isClose 27 = .ok (.ireturn, 1) := by decide +kernel
theorem dL_isClose_28 : decode cL_isClose 28 = .ok (.iconst 0, 1) := by decide +kernel
theorem dL_isClose_29 : decode cL_isClose 29 = .ok (.ireturn, 1) := by decide +kernel
theorem dL_isStraight_0 : decode cL_isStraight 0 = .ok (.aload 4, 2) := by decide +kernel
theorem dL_isStraight_2 : decode cL_isStraight 2 = .ok (.iconst 0, 1) := by decide +kernel
theorem dL_isStraight_3 : decode cL_isStraight 3 = .ok (.aload_n 0, 1) := by decide +kernel
theorem dL_isStraight_4 : decode cL_isStraight 4 = .ok (.iload_n 1, 1) := by decide +kernel
theorem dL_isStraight_5 : decode cL_isStraight 5 = .ok (.iload_n 2, 1) := by decide +kernel
theorem dL_isStraight_6 : decode cL_isStraight 6 = .ok (.iload_n 3, 1) := by decide +kernel
theorem dL_isStraight_7 : decode cL_isStraight 7 = .ok (.invokevirtual 51, 3) := by decide +kernel
theorem dL_isStraight_10 : decode cL_isStraight 10 = .ok (.ifCond .eq 7, 3) := by decide +kernel
theorem dL_isStraight_13 : decode cL_isStraight 13 = .ok (.lconst 1, 1) := by decide +kernel
theorem dL_isStraight_14 : decode cL_isStraight 14 = .ok (.goto 4, 3) := by decide +kernel
theorem dL_isStraight_17 : decode cL_isStraight 17 = .ok (.lconst 0, 1) := by decide +kernel
theorem dL_isStraight_18 : decode cL_isStraight 18 = .ok (.lastore, 1) := by decide +kernel
theorem dL_isStraight_19 : decode cL_isStraight 19 = .ok (.goto 11, 3) := by decide +kernel
theorem dL_isStraight_22 : decode cL_isStraight 22 = .ok (.astore 5, 2) := by decide +kernel
theorem dL_isStraight_24 : decode cL_isStraight 24 = .ok (.iconst 1, 1) := by decide +kernel
theorem dL_isStraight_25 : decode cL_isStraight 25 = .ok (.ireturn, 1) := by decide +kernel
theorem dL_isStraight_26 : decode cL_isStraight 26 = .ok (.astore 5, 2) := by decide +kernel
theorem dL_isStraight_28 : decode cL_isStraight 28 = .ok (.iconst 2, 1) := by decide +kernel
theorem dL_isStraight_29 : decode cL_isStraight 29 = .ok (.ireturn, 1) := by decide +kernel
theorem dL_isStraight_30 : decode cL_isStraight 30 = .ok (.iconst 0, 1) := by decide +kernel
theorem dL_isStraight_31 : decode cL_isStraight 31 = .ok (.ireturn, 1) := by decide +kernel
theorem dL_nearest_0 : decode cL_nearest 0 = .ok (.aload_n 2, 1) := by decide +kernel
theorem dL_nearest_1 : decode cL_nearest 1 = .ok (.iconst 0, 1) := by decide +kernel
theorem dL_nearest_2 : decode cL_nearest 2 = .ok (.aload_n 0, 1) := by decide +kernel
theorem dL_nearest_3 : decode cL_nearest 3 = .ok (.iload_n 1, 1) := by decide +kernel
theorem dL_nearest_4 : decode cL_nearest 4 = .ok (.invokevirtual 54, 3) := by decide +kernel
theorem dL_nearest_7 : decode cL_nearest 7 = .ok (.i2l, 1) := by decide +kernel
theorem dL_nearest_8 : decode cL_nearest 8 = .ok (.lastore, 1) := by decide +kernel
theorem dL_nearest_9 : decode cL_nearest 9 = .ok (.goto 12, 3) := by decide +kernel
theorem dL_nearest_12 : decode cL_nearest 12 = .ok (.astore_n 3, 1) := by decide +kernel
theorem dL_nearest_13 : decode cL_nearest 13 = .ok (.iconst 1, 1) := by decide +kernel
theorem dL_nearest_14 : decode cL_nearest 14 = .ok (.ireturn, 1) := by decide +kernel
theorem dL_nearest_15 : decode cL_nearest 15 = .ok (.astore_n 3, 1) := by decide +kernel
theorem dL_nearest_16 : decode cL_nearest 16 = .ok (.iconst 2, 1) := by decide +kernel
theorem dL_nearest_17 : decode cL_nearest 17 = .ok (.ireturn, 1) := by decide +kernel
theorem dL_nearest_18 : decode cL_nearest 18 = .ok (.astore_n 3, 1) := by decide +kernel
theorem dL_nearest_19 : decode cL_nearest 19 = .ok (.iconst 3, 1) := by decide +kernel
theorem dL_nearest_20 : decode cL_nearest 20 = .ok (.ireturn, 1) := by decide +kernel
theorem dL_nearest_21 : decode cL_nearest 21 = .ok (.iconst 0, 1) := by decide +kernel
theorem dL_nearest_22 : decode cL_nearest 22 = .ok (.ireturn, 1) := by decide +kernel
theorem dL_rank_0 : decode cL_rank 0 = .ok (.aload_n 3, 1) := by decide +kernel
theorem dL_rank_1 : decode cL_rank 1 = .ok (.iconst 0, 1) := by decide +kernel
theorem dL_rank_2 : decode cL_rank 2 = .ok (.aload_n 0, 1) := by decide +kernel
theorem dL_rank_3 : decode cL_rank 3 = .ok (.iload_n 1, 1) := by decide +kernel
theorem dL_rank_4 : decode cL_rank 4 = .ok (.iload_n 2, 1) := by decide +kernel
theorem dL_rank_5 : decode cL_rank 5 = .ok (.invokevirtual 57, 3) := by decide +kernel
theorem dL_rank_8 : decode cL_rank 8 = .ok (.i2l, 1) := by decide +kernel
theorem dL_rank_9 : decode cL_rank 9 = .ok (.lastore, 1) := by decide +kernel
theorem dL_rank_10 : decode cL_rank 10 = .ok (.goto 11, 3) := by decide +kernel
theorem dL_rank_13 : decode cL_rank 13 = .ok (.astore 4, 2) := by decide +kernel
theorem dL_rank_15 : decode cL_rank 15 = .ok (.iconst 1, 1) := by decide +kernel
theorem dL_rank_16 : decode cL_rank 16 = .ok (.ireturn, 1) := by decide +kernel
theorem dL_rank_17 : decode cL_rank 17 = .ok (.astore 4, 2) := by decide +kernel
theorem dL_rank_19 : decode cL_rank 19 = .ok (.iconst 2, 1) := by decide +kernel
theorem dL_rank_20 : decode cL_rank 20 = .ok (.ireturn, 1) := by decide +kernel
theorem dL_rank_21 : decode cL_rank 21 = .ok (.iconst 0, 1) := by decide +kernel
theorem dL_rank_22 : decode cL_rank 22 = .ok (.ireturn, 1) := by decide +kernel
theorem dL_isIn_0 : decode cL_isIn 0 = .ok (.aload 5, 2) := by decide +kernel
theorem dL_isIn_2 : decode cL_isIn 2 = .ok (.iconst 0, 1) := by decide +kernel
theorem dL_isIn_3 : decode cL_isIn 3 = .ok (.aload_n 0, 1) := by decide +kernel
theorem dL_isIn_4 : decode cL_isIn 4 = .ok (.iload_n 1, 1) := by decide +kernel
theorem dL_isIn_5 : decode cL_isIn 5 = .ok (.iload_n 2, 1) := by decide +kernel
theorem dL_isIn_6 : decode cL_isIn 6 = .ok (.iload_n 3, 1) := by decide +kernel
theorem dL_isIn_7 : decode cL_isIn 7 = .ok (.iload 4, 2) := by decide +kernel
theorem dL_isIn_9 : decode cL_isIn 9 = .ok (.invokevirtual 60, 3) := by decide +kernel
theorem dL_isIn_12 : decode cL_isIn 12 = .ok (.ifCond .eq 7, 3) := by decide +kernel
theorem dL_isIn_15 : decode cL_isIn 15 = .ok (.lconst 1, 1) := by decide +kernel
theorem dL_isIn_16 : decode cL_isIn 16 = .ok (.goto 4, 3) := by decide +kernel
theorem dL_isIn_19 : decode cL_isIn 19 = .ok (.lconst 0, 1) := by decide +kernel
theorem dL_isIn_20 : decode cL_isIn 20 = .ok (.lastore, 1) := by decide +kernel
theorem dL_isIn_21 : decode cL_isIn 21 = .ok (.goto 15, 3) := by decide +kernel
theorem dL_isIn_24 : decode cL_isIn 24 = .ok (.astore 6, 2) := by decide +kernel
theorem dL_isIn_26 : decode cL_isIn 26 = .ok (.iconst 1, 1) := by decide +kernel
theorem dL_isIn_27 : decode cL_isIn 27 = .ok (.ireturn, 1) := by decide +kernel
theorem dL_isIn_28 : decode cL_isIn 28 = .ok (.astore 6, 2) := by decide +kernel
theorem dL_isIn_30 : decode cL_isIn 30 = .ok (.iconst 2, 1) := by decide +kernel
theorem dL_isIn_31 : decode cL_isIn 31 = .ok (.ireturn, 1) := by decide +kernel
theorem dL_isIn_32 : decode cL_isIn 32 = .ok (.astore 6, 2) := by decide +kernel
theorem dL_isIn_34 : decode cL_isIn 34 = .ok (.iconst 3, 1) := by decide +kernel
theorem dL_isIn_35 : decode cL_isIn 35 = .ok (.ireturn, 1) := by decide +kernel
theorem dL_isIn_36 : decode cL_isIn 36 = .ok (.iconst 0, 1) := by decide +kernel
theorem dL_isIn_37 : decode cL_isIn 37 = .ok (.ireturn, 1) := by decide +kernel
theorem dL_root_0 : decode cL_root 0 = .ok (.aload_n 3, 1) := by decide +kernel
theorem dL_root_1 : decode cL_root 1 = .ok (.iconst 0, 1) := by decide +kernel
theorem dL_root_2 : decode cL_root 2 = .ok (.aload_n 0, 1) := by decide +kernel
theorem dL_root_3 : decode cL_root 3 = .ok (.iload_n 1, 1) := by decide +kernel
theorem dL_root_4 : decode cL_root 4 = .ok (.iload_n 2, 1) := by decide +kernel
theorem dL_root_5 : decode cL_root 5 = .ok (.invokevirtual 64, 3) := by decide +kernel
theorem dL_root_8 : decode cL_root 8 = .ok (.dastore, 1) := by decide +kernel
theorem dL_root_9 : decode cL_root 9 = .ok (.goto 7, 3) := by decide +kernel
theorem dL_root_12 : decode cL_root 12 = .ok (.astore 4, 2) := by decide +kernel
theorem dL_root_14 : decode cL_root 14 = .ok (.iconst 1, 1) := by decide +kernel
theorem dL_root_15 : decode cL_root 15 = .ok (.ireturn, 1) := by decide +kernel
theorem dL_root_16 : decode cL_root 16 = .ok (.iconst 0, 1) := by decide +kernel
theorem dL_root_17 : decode cL_root 17 = .ok (.ireturn, 1) := by decide +kernel
theorem dL_rootBits_0 : decode cL_rootBits 0 = .ok (.aload_n 3, 1) := by decide +kernel
theorem dL_rootBits_1 : decode cL_rootBits 1 = .ok (.iconst 0, 1) := by decide +kernel
theorem dL_rootBits_2 : decode cL_rootBits 2 = .ok (.aload_n 0, 1) := by decide +kernel
theorem dL_rootBits_3 : decode cL_rootBits 3 = .ok (.iload_n 1, 1) := by decide +kernel
theorem dL_rootBits_4 : decode cL_rootBits 4 = .ok (.iload_n 2, 1) := by decide +kernel
theorem dL_rootBits_5 : decode cL_rootBits 5 = .ok (.invokevirtual 68, 3) := by decide +kernel
theorem dL_rootBits_8 : decode cL_rootBits 8 = .ok (.lastore, 1) := by decide +kernel
theorem dL_rootBits_9 : decode cL_rootBits 9 = .ok (.goto 7, 3) := by decide +kernel
theorem dL_rootBits_12 : decode cL_rootBits 12 = .ok (.astore 4, 2) := by decide +kernel
theorem dL_rootBits_14 : decode cL_rootBits 14 = .ok (.iconst 1, 1) := by decide +kernel
theorem dL_rootBits_15 : decode cL_rootBits 15 = .ok (.ireturn, 1) := by decide +kernel
theorem dL_rootBits_16 : decode cL_rootBits 16 = .ok (.iconst 0, 1) := by decide +kernel
theorem dL_rootBits_17 : decode cL_rootBits 17 = .ok (.ireturn, 1) := by decide +kernel
theorem dL_rootGrains_0 : decode cL_rootGrains 0 = .ok (.aload_n 3, 1) := by decide +kernel
theorem dL_rootGrains_1 : decode cL_rootGrains 1 = .ok (.iconst 0, 1) := by decide +kernel
theorem dL_rootGrains_2 : decode cL_rootGrains 2 = .ok (.aload_n 0, 1) := by decide +kernel
theorem dL_rootGrains_3 : decode cL_rootGrains 3 = .ok (.iload_n 1, 1) := by decide +kernel
theorem dL_rootGrains_4 : decode cL_rootGrains 4 = .ok (.iload_n 2, 1) := by decide +kernel
theorem dL_rootGrains_5 : decode cL_rootGrains 5 = .ok (.invokevirtual 72, 3) := by decide +kernel
theorem dL_rootGrains_8 : decode cL_rootGrains 8 = .ok (.i2l, 1) := by decide +kernel
theorem dL_rootGrains_9 : decode cL_rootGrains 9 = .ok (.lastore, 1) := by decide +kernel
theorem dL_rootGrains_10 : decode cL_rootGrains 10 = .ok (.goto 7, 3) := by decide +kernel
theorem dL_rootGrains_13 : decode cL_rootGrains 13 = .ok (.astore 4, 2) := by decide +kernel
theorem dL_rootGrains_15 : decode cL_rootGrains 15 = .ok (.iconst 1, 1) := by decide +kernel
theorem dL_rootGrains_16 : decode cL_rootGrains 16 = .ok (.ireturn, 1) := by decide +kernel
theorem dL_rootGrains_17 : decode cL_rootGrains 17 = .ok (.iconst 0, 1) := by decide +kernel
theorem dL_rootGrains_18 : decode cL_rootGrains 18 = .ok (.ireturn, 1) := by decide +kernel
theorem dL_wholeRoot_0 : decode cL_wholeRoot 0 = .ok (.aload_n 2, 1) := by decide +kernel
theorem dL_wholeRoot_1 : decode cL_wholeRoot 1 = .ok (.iconst 0, 1) := by decide +kernel
theorem dL_wholeRoot_2 : decode cL_wholeRoot 2 = .ok (.aload_n 0, 1) := by decide +kernel
theorem dL_wholeRoot_3 : decode cL_wholeRoot 3 = .ok (.iload_n 1, 1) := by decide +kernel
theorem dL_wholeRoot_4 : decode cL_wholeRoot 4 = .ok (.invokevirtual 76, 3) := by decide +kernel
theorem dL_wholeRoot_7 : decode cL_wholeRoot 7 = .ok (.i2l, 1) := by decide +kernel
theorem dL_wholeRoot_8 : decode cL_wholeRoot 8 = .ok (.lastore, 1) := by decide +kernel
theorem dL_wholeRoot_9 : decode cL_wholeRoot 9 = .ok (.goto 6, 3) := by decide +kernel
theorem dL_wholeRoot_12 : decode cL_wholeRoot 12 = .ok (.astore_n 3, 1) := by decide +kernel
theorem dL_wholeRoot_13 : decode cL_wholeRoot 13 = .ok (.iconst 1, 1) := by decide +kernel
theorem dL_wholeRoot_14 : decode cL_wholeRoot 14 = .ok (.ireturn, 1) := by decide +kernel
theorem dL_wholeRoot_15 : decode cL_wholeRoot 15 = .ok (.iconst 0, 1) := by decide +kernel
theorem dL_wholeRoot_16 : decode cL_wholeRoot 16 = .ok (.ireturn, 1) := by decide +kernel
theorem dL_isNearest_0 : decode cL_isNearest 0 = .ok (.aload_n 3, 1) := by decide +kernel
theorem dL_isNearest_1 : decode cL_isNearest 1 = .ok (.iconst 0, 1) := by decide +kernel
theorem dL_isNearest_2 : decode cL_isNearest 2 = .ok (.aload_n 0, 1) := by decide +kernel
theorem dL_isNearest_3 : decode cL_isNearest 3 = .ok (.iload_n 1, 1) := by decide +kernel
theorem dL_isNearest_4 : decode cL_isNearest 4 = .ok (.iload_n 2, 1) := by decide +kernel
theorem dL_isNearest_5 : decode cL_isNearest 5 = .ok (.invokevirtual 79, 3) := by decide +kernel
theorem dL_isNearest_8 : decode cL_isNearest 8 = .ok (.ifCond .eq 7, 3) := by decide +kernel
theorem dL_isNearest_11 : decode cL_isNearest 11 = .ok (.lconst 1, 1) := by decide +kernel
theorem dL_isNearest_12 : decode cL_isNearest 12 = .ok (.goto 4, 3) := by decide +kernel
theorem dL_isNearest_15 : decode cL_isNearest 15 = .ok (.lconst 0, 1) := by decide +kernel
theorem dL_isNearest_16 : decode cL_isNearest 16 = .ok (.lastore, 1) := by decide +kernel
theorem dL_isNearest_17 : decode cL_isNearest 17 = .ok (.goto 7, 3) := by decide +kernel
theorem dL_isNearest_20 : decode cL_isNearest 20 = .ok (.astore 4, 2) := by decide +kernel
theorem dL_isNearest_22 : decode cL_isNearest 22 = .ok (.iconst 1, 1) := by decide +kernel
theorem dL_isNearest_23 : decode cL_isNearest 23 = .ok (.ireturn, 1) := by decide +kernel
theorem dL_isNearest_24 : decode cL_isNearest 24 = .ok (.iconst 0, 1) := by decide +kernel
theorem dL_isNearest_25 : decode cL_isNearest 25 = .ok (.ireturn, 1) := by decide +kernel
theorem dL_isHalved_0 : decode cL_isHalved 0 = .ok (.aload_n 2, 1) := by decide +kernel
theorem dL_isHalved_1 : decode cL_isHalved 1 = .ok (.iconst 0, 1) := by decide +kernel
theorem dL_isHalved_2 : decode cL_isHalved 2 = .ok (.aload_n 0, 1) := by decide +kernel
theorem dL_isHalved_3 : decode cL_isHalved 3 = .ok (.iload_n 1, 1) := by decide +kernel
theorem dL_isHalved_4 : decode cL_isHalved 4 = .ok (.invokevirtual 83, 3) := by decide +kernel
theorem dL_isHalved_7 : decode cL_isHalved 7 = .ok (.ifCond .eq 7, 3) := by decide +kernel
theorem dL_isHalved_10 : decode cL_isHalved 10 = .ok (.lconst 1, 1) := by decide +kernel
theorem dL_isHalved_11 : decode cL_isHalved 11 = .ok (.goto 4, 3) := by decide +kernel
theorem dL_isHalved_14 : decode cL_isHalved 14 = .ok (.lconst 0, 1) := by decide +kernel
theorem dL_isHalved_15 : decode cL_isHalved 15 = .ok (.lastore, 1) := by decide +kernel
theorem dL_isHalved_16 : decode cL_isHalved 16 = .ok (.goto 6, 3) := by decide +kernel
theorem dL_isHalved_19 : decode cL_isHalved 19 = .ok (.astore_n 3, 1) := by decide +kernel
theorem dL_isHalved_20 : decode cL_isHalved 20 = .ok (.iconst 1, 1) := by decide +kernel
theorem dL_isHalved_21 : decode cL_isHalved 21 = .ok (.ireturn, 1) := by decide +kernel
theorem dL_isHalved_22 : decode cL_isHalved 22 = .ok (.iconst 0, 1) := by decide +kernel
theorem dL_isHalved_23 : decode cL_isHalved 23 = .ok (.ireturn, 1) := by decide +kernel
theorem dL_between_0 : decode cL_between 0 = .ok (.aload 4, 2) := by decide +kernel
theorem dL_between_2 : decode cL_between 2 = .ok (.iconst 0, 1) := by decide +kernel
theorem dL_between_3 : decode cL_between 3 = .ok (.aload_n 0, 1) := by decide +kernel
theorem dL_between_4 : decode cL_between 4 = .ok (.iload_n 1, 1) := by decide +kernel
theorem dL_between_5 : decode cL_between 5 = .ok (.iload_n 2, 1) := by decide +kernel
theorem dL_between_6 : decode cL_between 6 = .ok (.iload_n 3, 1) := by decide +kernel
theorem dL_between_7 : decode cL_between 7 = .ok (.invokevirtual 86, 3) := by decide +kernel
theorem dL_between_10 : decode cL_between 10 = .ok (.i2l, 1) := by decide +kernel
theorem dL_between_11 : decode cL_between 11 = .ok (.lastore, 1) := by decide +kernel
theorem dL_between_12 : decode cL_between 12 = .ok (.goto 7, 3) := by decide +kernel
theorem dL_between_15 : decode cL_between 15 = .ok (.astore 5, 2) := by decide +kernel
theorem dL_between_17 : decode cL_between 17 = .ok (.iconst 1, 1) := by decide +kernel
theorem dL_between_18 : decode cL_between 18 = .ok (.ireturn, 1) := by decide +kernel
theorem dL_between_19 : decode cL_between 19 = .ok (.iconst 0, 1) := by decide +kernel
theorem dL_between_20 : decode cL_between 20 = .ok (.ireturn, 1) := by decide +kernel
theorem dL_join_0 : decode cL_join 0 = .ok (.aload_n 2, 1) := by decide +kernel
theorem dL_join_1 : decode cL_join 1 = .ok (.iconst 0, 1) := by decide +kernel
theorem dL_join_2 : decode cL_join 2 = .ok (.aload_n 0, 1) := by decide +kernel
theorem dL_join_3 : decode cL_join 3 = .ok (.iload_n 1, 1) := by decide +kernel
theorem dL_join_4 : decode cL_join 4 = .ok (.invokevirtual 90, 3) := by decide +kernel
theorem dL_join_7 : decode cL_join 7 = .ok (.i2l, 1) := by decide +kernel
theorem dL_join_8 : decode cL_join 8 = .ok (.lastore, 1) := by decide +kernel
theorem dL_join_9 : decode cL_join 9 = .ok (.goto 12, 3) := by decide +kernel
theorem dL_join_12 : decode cL_join 12 = .ok (.astore_n 3, 1) := by decide +kernel
theorem dL_join_13 : decode cL_join 13 = .ok (.iconst 1, 1) := by decide +kernel
theorem dL_join_14 : decode cL_join 14 = .ok (.ireturn, 1) := by decide +kernel
theorem dL_join_15 : decode cL_join 15 = .ok (.astore_n 3, 1) := by decide +kernel
theorem dL_join_16 : decode cL_join 16 = .ok (.iconst 2, 1) := by decide +kernel
theorem dL_join_17 : decode cL_join 17 = .ok (.ireturn, 1) := by decide +kernel
theorem dL_join_18 : decode cL_join 18 = .ok (.astore_n 3, 1) := by decide +kernel
theorem dL_join_19 : decode cL_join 19 = .ok (.iconst 3, 1) := by decide +kernel
theorem dL_join_20 : decode cL_join 20 = .ok (.ireturn, 1) := by decide +kernel
theorem dL_join_21 : decode cL_join 21 = .ok (.iconst 0, 1) := by decide +kernel
theorem dL_join_22 : decode cL_join 22 = .ok (.ireturn, 1) := by decide +kernel
theorem dL_unjoin_0 : decode cL_unjoin 0 = .ok (.aload_n 1, 1) := by decide +kernel
theorem dL_unjoin_1 : decode cL_unjoin 1 = .ok (.iconst 0, 1) := by decide +kernel
theorem dL_unjoin_2 : decode cL_unjoin 2 = .ok (.aload_n 0, 1) := by decide +kernel
theorem dL_unjoin_3 : decode cL_unjoin 3 = .ok (.invokevirtual 93, 3) := by decide +kernel
theorem dL_unjoin_6 : decode cL_unjoin 6 = .ok (.i2l, 1) := by decide +kernel
theorem dL_unjoin_7 : decode cL_unjoin 7 = .ok (.lastore, 1) := by decide +kernel
theorem dL_unjoin_8 : decode cL_unjoin 8 = .ok (.goto 6, 3) := by decide +kernel
theorem dL_unjoin_11 : decode cL_unjoin 11 = .ok (.astore_n 2, 1) := by decide +kernel
theorem dL_unjoin_12 : decode cL_unjoin 12 = .ok (.iconst 1, 1) := by decide +kernel
theorem dL_unjoin_13 : decode cL_unjoin 13 = .ok (.ireturn, 1) := by decide +kernel
theorem dL_unjoin_14 : decode cL_unjoin 14 = .ok (.iconst 0, 1) := by decide +kernel
theorem dL_unjoin_15 : decode cL_unjoin 15 = .ok (.ireturn, 1) := by decide +kernel
theorem dL_ringAt_0 : decode cL_ringAt 0 = .ok (.aload_n 2, 1) := by decide +kernel
theorem dL_ringAt_1 : decode cL_ringAt 1 = .ok (.iconst 0, 1) := by decide +kernel
theorem dL_ringAt_2 : decode cL_ringAt 2 = .ok (.aload_n 0, 1) := by decide +kernel
theorem dL_ringAt_3 : decode cL_ringAt 3 = .ok (.iload_n 1, 1) := by decide +kernel
theorem dL_ringAt_4 : decode cL_ringAt 4 = .ok (.invokevirtual 97, 3) := by decide +kernel
theorem dL_ringAt_7 : decode cL_ringAt 7 = .ok (.i2l, 1) := by decide +kernel
theorem dL_ringAt_8 : decode cL_ringAt 8 = .ok (.lastore, 1) := by decide +kernel
theorem dL_ringAt_9 : decode cL_ringAt 9 = .ok (.goto 6, 3) := by decide +kernel
theorem dL_ringAt_12 : decode cL_ringAt 12 = .ok (.astore_n 3, 1) := by decide +kernel
theorem dL_ringAt_13 : decode cL_ringAt 13 = .ok (.iconst 1, 1) := by decide +kernel
theorem dL_ringAt_14 : decode cL_ringAt 14 = .ok (.ireturn, 1) := by decide +kernel
theorem dL_ringAt_15 : decode cL_ringAt 15 = .ok (.iconst 0, 1) := by decide +kernel
theorem dL_ringAt_16 : decode cL_ringAt 16 = .ok (.ireturn, 1) := by decide +kernel
theorem dL_sideBits_0 : decode cL_sideBits 0 = .ok (.aload_n 1, 1) := by decide +kernel
theorem dL_sideBits_1 : decode cL_sideBits 1 = .ok (.iconst 0, 1) := by decide +kernel
theorem dL_sideBits_2 : decode cL_sideBits 2 = .ok (.aload_n 0, 1) := by decide +kernel
end
section
theorem dL_sideBits_3 : decode cL_sideBits 3 = .ok (.invokevirtual 100, 3) := by decide +kernel
theorem dL_sideBits_6 : decode cL_sideBits 6 = .ok (.lastore, 1) := by decide +kernel
theorem dL_sideBits_7 : decode cL_sideBits 7 = .ok (.goto 6, 3) := by decide +kernel
theorem dL_sideBits_10 : decode cL_sideBits 10 = .ok (.astore_n 2, 1) := by decide +kernel
theorem dL_sideBits_11 : decode cL_sideBits 11 = .ok (.iconst 1, 1) := by decide +kernel
theorem dL_sideBits_12 : decode cL_sideBits 12 = .ok (.ireturn, 1) := by decide +kernel
theorem dL_sideBits_13 : decode cL_sideBits 13 = .ok (.iconst 0, 1) := by decide +kernel
theorem dL_sideBits_14 : decode cL_sideBits 14 = .ok (.ireturn, 1) := by decide +kernel
theorem dL_law_0 : decode cL_law 0 = .ok (.new 8, 3) := by decide +kernel
theorem dL_law_3 : decode cL_law 3 = .ok (.dup, 1) := by decide +kernel
theorem dL_law_4 : decode cL_law 4 = .ok (.invokespecial 104, 3) := by decide +kernel
theorem dL_law_7 : decode cL_law 7 = .ok (.astore_n 1, 1) := by decide +kernel
theorem dL_law_8 : decode cL_law 8 = .ok (.new 105, 3) := by decide +kernel
theorem dL_law_11 : decode cL_law 11 = .ok (.dup, 1) := by decide +kernel
theorem dL_law_12 : decode cL_law 12 = .ok (.invokespecial 107, 3) := by decide +kernel
theorem dL_law_15 : decode cL_law 15 = .ok (.astore_n 2, 1) := by decide +kernel
theorem dL_law_16 : decode cL_law 16 = .ok (.iconst 1, 1) := by decide +kernel
theorem dL_law_17 : decode cL_law 17 = .ok (.newarray .long, 2) := by decide +kernel
theorem dL_law_19 : decode cL_law 19 = .ok (.astore_n 3, 1) := by decide +kernel
theorem dL_law_20 : decode cL_law 20 = .ok (.iconst 1, 1) := by decide +kernel
theorem dL_law_21 : decode cL_law 21 = .ok (.newarray .double, 2) := by decide +kernel
theorem dL_law_23 : decode cL_law 23 = .ok (.astore 4, 2) := by decide +kernel
theorem dL_law_25 : decode cL_law 25 = .ok (.iconst 0, 1) := by decide +kernel
theorem dL_law_26 : decode cL_law 26 = .ok (.istore 5, 2) := by decide +kernel
theorem dL_law_28 : decode cL_law 28 = .ok (.iload 5, 2) := by decide +kernel
theorem dL_law_30 : decode cL_law 30 = .ok (.aload_n 0, 1) := by decide +kernel
theorem dL_law_31 : decode cL_law 31 = .ok (.arraylength, 1) := by decide +kernel
theorem dL_law_32 : decode cL_law 32 = .ok (.iconst 5, 1) := by decide +kernel
theorem dL_law_33 : decode cL_law 33 = .ok (.isub, 1) := by decide +kernel
theorem dL_law_34 : decode cL_law 34 = .ok (.if_icmp .gt 1974, 3) := by decide +kernel
theorem dL_law_37 : decode cL_law 37 = .ok (.aload_n 0, 1) := by decide +kernel
theorem dL_law_38 : decode cL_law 38 = .ok (.iload 5, 2) := by decide +kernel
theorem dL_law_40 : decode cL_law 40 = .ok (.iaload, 1) := by decide +kernel
theorem dL_law_41 : decode cL_law 41 = .ok (.bipush 31, 2) := by decide +kernel
theorem dL_law_43 : decode cL_law 43 = .ok (.iand, 1) := by decide +kernel
theorem dL_law_44 : decode cL_law 44 = .ok (.tableswitch 1958 0 29 #[136, 223, 259, 336, 399, 455, 468, 509, 577, 652, 727, 802, 889, 945, 1013, 1128, 1233, 1316, 1400, 1456, 1547, 1610, 1706, 1762, 1806, 1862, 1875, 1888, 1931, 1945], 136) := by decide +kernel
theorem dL_law_180 : decode cL_law 180 = .ok (.aload_n 1, 1) := by decide +kernel
theorem dL_law_181 : decode cL_law 181 = .ok (.aload_n 0, 1) := by decide +kernel
theorem dL_law_182 : decode cL_law 182 = .ok (.iload 5, 2) := by decide +kernel
theorem dL_law_184 : decode cL_law 184 = .ok (.iconst 1, 1) := by decide +kernel
theorem dL_law_185 : decode cL_law 185 = .ok (.iadd, 1) := by decide +kernel
theorem dL_law_186 : decode cL_law 186 = .ok (.iaload, 1) := by decide +kernel
theorem dL_law_187 : decode cL_law 187 = .ok (.aload_n 0, 1) := by decide +kernel
theorem dL_law_188 : decode cL_law 188 = .ok (.iload 5, 2) := by decide +kernel
theorem dL_law_190 : decode cL_law 190 = .ok (.iconst 2, 1) := by decide +kernel
theorem dL_law_191 : decode cL_law 191 = .ok (.iadd, 1) := by decide +kernel
theorem dL_law_192 : decode cL_law 192 = .ok (.iaload, 1) := by decide +kernel
theorem dL_law_193 : decode cL_law 193 = .ok (.aload_n 0, 1) := by decide +kernel
theorem dL_law_194 : decode cL_law 194 = .ok (.iload 5, 2) := by decide +kernel
theorem dL_law_196 : decode cL_law 196 = .ok (.iconst 3, 1) := by decide +kernel
theorem dL_law_197 : decode cL_law 197 = .ok (.iadd, 1) := by decide +kernel
theorem dL_law_198 : decode cL_law 198 = .ok (.iaload, 1) := by decide +kernel
theorem dL_law_199 : decode cL_law 199 = .ok (.aload_n 3, 1) := by decide +kernel
theorem dL_law_200 : decode cL_law 200 = .ok (.invokestatic 108, 3) := by decide +kernel
theorem dL_law_203 : decode cL_law 203 = .ok (.istore 6, 2) := by decide +kernel
theorem dL_law_205 : decode cL_law 205 = .ok (.aload_n 2, 1) := by decide +kernel
theorem dL_law_206 : decode cL_law 206 = .ok (.aload_n 0, 1) := by decide +kernel
theorem dL_law_207 : decode cL_law 207 = .ok (.iload 5, 2) := by decide +kernel
theorem dL_law_209 : decode cL_law 209 = .ok (.iconst 1, 1) := by decide +kernel
theorem dL_law_210 : decode cL_law 210 = .ok (.iadd, 1) := by decide +kernel
theorem dL_law_211 : decode cL_law 211 = .ok (.iaload, 1) := by decide +kernel
theorem dL_law_212 : decode cL_law 212 = .ok (.aload_n 0, 1) := by decide +kernel
theorem dL_law_213 : decode cL_law 213 = .ok (.iload 5, 2) := by decide +kernel
theorem dL_law_215 : decode cL_law 215 = .ok (.iconst 2, 1) := by decide +kernel
theorem dL_law_216 : decode cL_law 216 = .ok (.iadd, 1) := by decide +kernel
theorem dL_law_217 : decode cL_law 217 = .ok (.iaload, 1) := by decide +kernel
theorem dL_law_218 : decode cL_law 218 = .ok (.aload_n 0, 1) := by decide +kernel
theorem dL_law_219 : decode cL_law 219 = .ok (.iload 5, 2) := by decide +kernel
theorem dL_law_221 : decode cL_law 221 = .ok (.iconst 3, 1) := by decide +kernel
theorem dL_law_222 : decode cL_law 222 = .ok (.iadd, 1) := by decide +kernel
theorem dL_law_223 : decode cL_law 223 = .ok (.iaload, 1) := by decide +kernel
theorem dL_law_224 : decode cL_law 224 = .ok (.invokevirtual 113, 3) := by decide +kernel
theorem dL_law_227 : decode cL_law 227 = .ok (.istore 7, 2) := by decide +kernel
theorem dL_law_229 : decode cL_law 229 = .ok (.aload_n 2, 1) := by decide +kernel
theorem dL_law_230 : decode cL_law 230 = .ok (.invokevirtual 114, 3) := by decide +kernel
theorem dL_law_233 : decode cL_law 233 = .ok (.iload 6, 2) := by decide +kernel
theorem dL_law_235 : decode cL_law 235 = .ok (.if_icmp .eq 5, 3) := by decide +kernel
theorem dL_law_238 : decode cL_law 238 = .ok (.iconst 0, 1) := by decide +kernel
theorem dL_law_239 : decode cL_law 239 = .ok (.ireturn, 1) := by decide +kernel
theorem dL_law_240 : decode cL_law 240 = .ok (.iload 6, 2) := by decide +kernel
theorem dL_law_242 : decode cL_law 242 = .ok (.ifCond .ne 22, 3) := by decide +kernel
theorem dL_law_245 : decode cL_law 245 = .ok (.aload_n 3, 1) := by decide +kernel
theorem dL_law_246 : decode cL_law 246 = .ok (.iconst 0, 1) := by decide +kernel
theorem dL_law_247 : decode cL_law 247 = .ok (.laload, 1) := by decide +kernel
theorem dL_law_248 : decode cL_law 248 = .ok (.iload 7, 2) := by decide +kernel
theorem dL_law_250 : decode cL_law 250 = .ok (.ifCond .eq 7, 3) := by decide +kernel
theorem dL_law_253 : decode cL_law 253 = .ok (.lconst 1, 1) := by decide +kernel
theorem dL_law_254 : decode cL_law 254 = .ok (.goto 4, 3) := by decide +kernel
theorem dL_law_257 : decode cL_law 257 = .ok (.lconst 0, 1) := by decide +kernel
theorem dL_law_258 : decode cL_law 258 = .ok (.lcmp, 1) := by decide +kernel
theorem dL_law_259 : decode cL_law 259 = .ok (.ifCond .eq 5, 3) := by decide +kernel
theorem dL_law_262 : decode cL_law 262 = .ok (.iconst 0, 1) := by decide +kernel
theorem dL_law_263 : decode cL_law 263 = .ok (.ireturn, 1) := by decide +kernel
theorem dL_law_264 : decode cL_law 264 = .ok (.goto 1738, 3) := by decide +kernel
theorem dL_law_267 : decode cL_law 267 = .ok (.aload_n 1, 1) := by decide +kernel
theorem dL_law_268 : decode cL_law 268 = .ok (.aload_n 0, 1) := by decide +kernel
theorem dL_law_269 : decode cL_law 269 = .ok (.iload 5, 2) := by decide +kernel
theorem dL_law_271 : decode cL_law 271 = .ok (.iconst 1, 1) := by decide +kernel
theorem dL_law_272 : decode cL_law 272 = .ok (.iadd, 1) := by decide +kernel
theorem dL_law_273 : decode cL_law 273 = .ok (.iaload, 1) := by decide +kernel
theorem dL_law_274 : decode cL_law 274 = .ok (.invokestatic 117, 3) := by decide +kernel
theorem dL_law_277 : decode cL_law 277 = .ok (.istore 6, 2) := by decide +kernel
theorem dL_law_279 : decode cL_law 279 = .ok (.aload_n 2, 1) := by decide +kernel
theorem dL_law_280 : decode cL_law 280 = .ok (.aload_n 0, 1) := by decide +kernel
theorem dL_law_281 : decode cL_law 281 = .ok (.iload 5, 2) := by decide +kernel
theorem dL_law_283 : decode cL_law 283 = .ok (.iconst 1, 1) := by decide +kernel
theorem dL_law_284 : decode cL_law 284 = .ok (.iadd, 1) := by decide +kernel
theorem dL_law_285 : decode cL_law 285 = .ok (.iaload, 1) := by decide +kernel
theorem dL_law_286 : decode cL_law 286 = .ok (.invokevirtual 120, 3) := by decide +kernel
theorem dL_law_289 : decode cL_law 289 = .ok (.aload_n 2, 1) := by decide +kernel
theorem dL_law_290 : decode cL_law 290 = .ok (.invokevirtual 114, 3) := by decide +kernel
theorem dL_law_293 : decode cL_law 293 = .ok (.iload 6, 2) := by decide +kernel
theorem dL_law_295 : decode cL_law 295 = .ok (.if_icmp .eq 5, 3) := by decide +kernel
theorem dL_law_298 : decode cL_law 298 = .ok (.iconst 0, 1) := by decide +kernel
theorem dL_law_299 : decode cL_law 299 = .ok (.ireturn, 1) := by decide +kernel
theorem dL_law_300 : decode cL_law 300 = .ok (.goto 1702, 3) := by decide +kernel
theorem dL_law_303 : decode cL_law 303 = .ok (.aload_n 1, 1) := by decide +kernel
theorem dL_law_304 : decode cL_law 304 = .ok (.aload_n 0, 1) := by decide +kernel
theorem dL_law_305 : decode cL_law 305 = .ok (.iload 5, 2) := by decide +kernel
theorem dL_law_307 : decode cL_law 307 = .ok (.iconst 1, 1) := by decide +kernel
theorem dL_law_308 : decode cL_law 308 = .ok (.iadd, 1) := by decide +kernel
theorem dL_law_309 : decode cL_law 309 = .ok (.iaload, 1) := by decide +kernel
theorem dL_law_310 : decode cL_law 310 = .ok (.aload_n 0, 1) := by decide +kernel
theorem dL_law_311 : decode cL_law 311 = .ok (.iload 5, 2) := by decide +kernel
theorem dL_law_313 : decode cL_law 313 = .ok (.iconst 2, 1) := by decide +kernel
theorem dL_law_314 : decode cL_law 314 = .ok (.iadd, 1) := by decide +kernel
theorem dL_law_315 : decode cL_law 315 = .ok (.iaload, 1) := by decide +kernel
theorem dL_law_316 : decode cL_law 316 = .ok (.i2c, 1) := by decide +kernel
theorem dL_law_317 : decode cL_law 317 = .ok (.aload_n 3, 1) := by decide +kernel
theorem dL_law_318 : decode cL_law 318 = .ok (.invokestatic 121, 3) := by decide +kernel
theorem dL_law_321 : decode cL_law 321 = .ok (.istore 6, 2) := by decide +kernel
theorem dL_law_323 : decode cL_law 323 = .ok (.aload_n 2, 1) := by decide +kernel
theorem dL_law_324 : decode cL_law 324 = .ok (.aload_n 0, 1) := by decide +kernel
theorem dL_law_325 : decode cL_law 325 = .ok (.iload 5, 2) := by decide +kernel
theorem dL_law_327 : decode cL_law 327 = .ok (.iconst 1, 1) := by decide +kernel
theorem dL_law_328 : decode cL_law 328 = .ok (.iadd, 1) := by decide +kernel
theorem dL_law_329 : decode cL_law 329 = .ok (.iaload, 1) := by decide +kernel
theorem dL_law_330 : decode cL_law 330 = .ok (.aload_n 0, 1) := by decide +kernel
theorem dL_law_331 : decode cL_law 331 = .ok (.iload 5, 2) := by decide +kernel
theorem dL_law_333 : decode cL_law 333 = .ok (.iconst 2, 1) := by decide +kernel
theorem dL_law_334 : decode cL_law 334 = .ok (.iadd, 1) := by decide +kernel
theorem dL_law_335 : decode cL_law 335 = .ok (.iaload, 1) := by decide +kernel
theorem dL_law_336 : decode cL_law 336 = .ok (.i2c, 1) := by decide +kernel
theorem dL_law_337 : decode cL_law 337 = .ok (.invokevirtual 124, 3) := by decide +kernel
theorem dL_law_340 : decode cL_law 340 = .ok (.istore 7, 2) := by decide +kernel
theorem dL_law_342 : decode cL_law 342 = .ok (.aload_n 2, 1) := by decide +kernel
theorem dL_law_343 : decode cL_law 343 = .ok (.invokevirtual 114, 3) := by decide +kernel
theorem dL_law_346 : decode cL_law 346 = .ok (.iload 6, 2) := by decide +kernel
theorem dL_law_348 : decode cL_law 348 = .ok (.if_icmp .eq 5, 3) := by decide +kernel
theorem dL_law_351 : decode cL_law 351 = .ok (.iconst 0, 1) := by decide +kernel
theorem dL_law_352 : decode cL_law 352 = .ok (.ireturn, 1) := by decide +kernel
theorem dL_law_353 : decode cL_law 353 = .ok (.iload 6, 2) := by decide +kernel
theorem dL_law_355 : decode cL_law 355 = .ok (.ifCond .ne 22, 3) := by decide +kernel
theorem dL_law_358 : decode cL_law 358 = .ok (.aload_n 3, 1) := by decide +kernel
theorem dL_law_359 : decode cL_law 359 = .ok (.iconst 0, 1) := by decide +kernel
theorem dL_law_360 : decode cL_law 360 = .ok (.laload, 1) := by decide +kernel
theorem dL_law_361 : decode cL_law 361 = .ok (.iload 7, 2) := by decide +kernel
theorem dL_law_363 : decode cL_law 363 = .ok (.ifCond .eq 7, 3) := by decide +kernel
theorem dL_law_366 : decode cL_law 366 = .ok (.lconst 1, 1) := by decide +kernel
theorem dL_law_367 : decode cL_law 367 = .ok (.goto 4, 3) := by decide +kernel
theorem dL_law_370 : decode cL_law 370 = .ok (.lconst 0, 1) := by decide +kernel
theorem dL_law_371 : decode cL_law 371 = .ok (.lcmp, 1) := by decide +kernel
theorem dL_law_372 : decode cL_law 372 = .ok (.ifCond .eq 5, 3) := by decide +kernel
theorem dL_law_375 : decode cL_law 375 = .ok (.iconst 0, 1) := by decide +kernel
theorem dL_law_376 : decode cL_law 376 = .ok (.ireturn, 1) := by decide +kernel
theorem dL_law_377 : decode cL_law 377 = .ok (.goto 1625, 3) := by decide +kernel
theorem dL_law_380 : decode cL_law 380 = .ok (.aload_n 1, 1) := by decide +kernel
theorem dL_law_381 : decode cL_law 381 = .ok (.aload_n 0, 1) := by decide +kernel
theorem dL_law_382 : decode cL_law 382 = .ok (.iload 5, 2) := by decide +kernel
theorem dL_law_384 : decode cL_law 384 = .ok (.iconst 1, 1) := by decide +kernel
theorem dL_law_385 : decode cL_law 385 = .ok (.iadd, 1) := by decide +kernel
theorem dL_law_386 : decode cL_law 386 = .ok (.iaload, 1) := by decide +kernel
theorem dL_law_387 : decode cL_law 387 = .ok (.aload_n 3, 1) := by decide +kernel
theorem dL_law_388 : decode cL_law 388 = .ok (.invokestatic 125, 3) := by decide +kernel
theorem dL_law_391 : decode cL_law 391 = .ok (.istore 6, 2) := by decide +kernel
theorem dL_law_393 : decode cL_law 393 = .ok (.aload_n 2, 1) := by decide +kernel
theorem dL_law_394 : decode cL_law 394 = .ok (.aload_n 0, 1) := by decide +kernel
theorem dL_law_395 : decode cL_law 395 = .ok (.iload 5, 2) := by decide +kernel
theorem dL_law_397 : decode cL_law 397 = .ok (.iconst 1, 1) := by decide +kernel
theorem dL_law_398 : decode cL_law 398 = .ok (.iadd, 1) := by decide +kernel
theorem dL_law_399 : decode cL_law 399 = .ok (.iaload, 1) := by decide +kernel
theorem dL_law_400 : decode cL_law 400 = .ok (.invokevirtual 128, 3) := by decide +kernel
theorem dL_law_403 : decode cL_law 403 = .ok (.istore 7, 2) := by decide +kernel
theorem dL_law_405 : decode cL_law 405 = .ok (.aload_n 2, 1) := by decide +kernel
theorem dL_law_406 : decode cL_law 406 = .ok (.invokevirtual 114, 3) := by decide +kernel
theorem dL_law_409 : decode cL_law 409 = .ok (.iload 6, 2) := by decide +kernel
theorem dL_law_411 : decode cL_law 411 = .ok (.if_icmp .eq 5, 3) := by decide +kernel
theorem dL_law_414 : decode cL_law 414 = .ok (.iconst 0, 1) := by decide +kernel
theorem dL_law_415 : decode cL_law 415 = .ok (.ireturn, 1) := by decide +kernel
theorem dL_law_416 : decode cL_law 416 = .ok (.iload 6, 2) := by decide +kernel
theorem dL_law_418 : decode cL_law 418 = .ok (.ifCond .ne 22, 3) := by decide +kernel
theorem dL_law_421 : decode cL_law 421 = .ok (.aload_n 3, 1) := by decide +kernel
theorem dL_law_422 : decode cL_law 422 = .ok (.iconst 0, 1) := by decide +kernel
theorem dL_law_423 : decode cL_law 423 = .ok (.laload, 1) := by decide +kernel
theorem dL_law_424 : decode cL_law 424 = .ok (.iload 7, 2) := by decide +kernel
theorem dL_law_426 : decode cL_law 426 = .ok (.ifCond .eq 7, 3) := by decide +kernel
theorem dL_law_429 : decode cL_law 429 = .ok (.lconst 1, 1) := by decide +kernel
theorem dL_law_430 : decode cL_law 430 = .ok (.goto 4, 3) := by decide +kernel
theorem dL_law_433 : decode cL_law 433 = .ok (.lconst 0, 1) := by decide +kernel
theorem dL_law_434 : decode cL_law 434 = .ok (.lcmp, 1) := by decide +kernel
theorem dL_law_435 : decode cL_law 435 = .ok (.ifCond .eq 5, 3) := by decide +kernel
theorem dL_law_438 : decode cL_law 438 = .ok (.iconst 0, 1) := by decide +kernel
theorem dL_law_439 : decode cL_law 439 = .ok (.ireturn, 1) := by decide +kernel
theorem dL_law_440 : decode cL_law 440 = .ok (.goto 1562, 3) := by decide +kernel
theorem dL_law_443 : decode cL_law 443 = .ok (.aload_n 1, 1) := by decide +kernel
theorem dL_law_444 : decode cL_law 444 = .ok (.aload_n 0, 1) := by decide +kernel
theorem dL_law_445 : decode cL_law 445 = .ok (.iload 5, 2) := by decide +kernel
theorem dL_law_447 : decode cL_law 447 = .ok (.iconst 1, 1) := by decide +kernel
theorem dL_law_448 : decode cL_law 448 = .ok (.iadd, 1) := by decide +kernel
theorem dL_law_449 : decode cL_law 449 = .ok (.iaload, 1) := by decide +kernel
theorem dL_law_450 : decode cL_law 450 = .ok (.aload_n 3, 1) := by decide +kernel
theorem dL_law_451 : decode cL_law 451 = .ok (.invokestatic 129, 3) := by decide +kernel
theorem dL_law_454 : decode cL_law 454 = .ok (.istore 6, 2) := by decide +kernel
theorem dL_law_456 : decode cL_law 456 = .ok (.aload_n 2, 1) := by decide +kernel
theorem dL_law_457 : decode cL_law 457 = .ok (.aload_n 0, 1) := by decide +kernel
theorem dL_law_458 : decode cL_law 458 = .ok (.iload 5, 2) := by decide +kernel
theorem dL_law_460 : decode cL_law 460 = .ok (.iconst 1, 1) := by decide +kernel
theorem dL_law_461 : decode cL_law 461 = .ok (.iadd, 1) := by decide +kernel
theorem dL_law_462 : decode cL_law 462 = .ok (.iaload, 1) := by decide +kernel
theorem dL_law_463 : decode cL_law 463 = .ok (.invokevirtual 131, 3) := by decide +kernel
theorem dL_law_466 : decode cL_law 466 = .ok (.istore 7, 2) := by decide +kernel
theorem dL_law_468 : decode cL_law 468 = .ok (.aload_n 2, 1) := by decide +kernel
theorem dL_law_469 : decode cL_law 469 = .ok (.invokevirtual 114, 3) := by decide +kernel
theorem dL_law_472 : decode cL_law 472 = .ok (.iload 6, 2) := by decide +kernel
theorem dL_law_474 : decode cL_law 474 = .ok (.if_icmp .eq 5, 3) := by decide +kernel
theorem dL_law_477 : decode cL_law 477 = .ok (.iconst 0, 1) := by decide +kernel
theorem dL_law_478 : decode cL_law 478 = .ok (.ireturn, 1) := by decide +kernel
theorem dL_law_479 : decode cL_law 479 = .ok (.iload 6, 2) := by decide +kernel
theorem dL_law_481 : decode cL_law 481 = .ok (.ifCond .ne 15, 3) := by decide +kernel
theorem dL_law_484 : decode cL_law 484 = .ok (.aload_n 3, 1) := by decide +kernel
theorem dL_law_485 : decode cL_law 485 = .ok (.iconst 0, 1) := by decide +kernel
theorem dL_law_486 : decode cL_law 486 = .ok (.laload, 1) := by decide +kernel
theorem dL_law_487 : decode cL_law 487 = .ok (.iload 7, 2) := by decide +kernel
theorem dL_law_489 : decode cL_law 489 = .ok (.i2l, 1) := by decide +kernel
theorem dL_law_490 : decode cL_law 490 = .ok (.lcmp, 1) := by decide +kernel
theorem dL_law_491 : decode cL_law 491 = .ok (.ifCond .eq 5, 3) := by decide +kernel
theorem dL_law_494 : decode cL_law 494 = .ok (.iconst 0, 1) := by decide +kernel
theorem dL_law_495 : decode cL_law 495 = .ok (.ireturn, 1) := by decide +kernel
theorem dL_law_496 : decode cL_law 496 = .ok (.goto 1506, 3) := by decide +kernel
theorem dL_law_499 : decode cL_law 499 = .ok (.aload_n 1, 1) := by decide +kernel
theorem dL_law_500 : decode cL_law 500 = .ok (.invokevirtual 132, 3) := by decide +kernel
theorem dL_law_503 : decode cL_law 503 = .ok (.aload_n 2, 1) := by decide +kernel
theorem dL_law_504 : decode cL_law 504 = .ok (.invokevirtual 135, 3) := by decide +kernel
theorem dL_law_507 : decode cL_law 507 = .ok (.if_icmp .eq 1495, 3) := by decide +kernel
theorem dL_law_510 : decode cL_law 510 = .ok (.iconst 0, 1) := by decide +kernel
theorem dL_law_511 : decode cL_law 511 = .ok (.ireturn, 1) := by decide +kernel
theorem dL_law_512 : decode cL_law 512 = .ok (.aload_n 1, 1) := by decide +kernel
theorem dL_law_513 : decode cL_law 513 = .ok (.aload_n 0, 1) := by decide +kernel
theorem dL_law_514 : decode cL_law 514 = .ok (.iload 5, 2) := by decide +kernel
theorem dL_law_516 : decode cL_law 516 = .ok (.iconst 1, 1) := by decide +kernel
theorem dL_law_517 : decode cL_law 517 = .ok (.iadd, 1) := by decide +kernel
theorem dL_law_518 : decode cL_law 518 = .ok (.iaload, 1) := by decide +kernel
theorem dL_law_519 : decode cL_law 519 = .ok (.ifCond .eq 7, 3) := by decide +kernel
theorem dL_law_522 : decode cL_law 522 = .ok (.iconst 1, 1) := by decide +kernel
theorem dL_law_523 : decode cL_law 523 = .ok (.goto 4, 3) := by decide +kernel
theorem dL_law_526 : decode cL_law 526 = .ok (.iconst 0, 1) := by decide +kernel
theorem dL_law_527 : decode cL_law 527 = .ok (.invokevirtual 136, 3) := by decide +kernel
theorem dL_law_530 : decode cL_law 530 = .ok (.aload_n 2, 1) := by decide +kernel
theorem dL_law_531 : decode cL_law 531 = .ok (.aload_n 0, 1) := by decide +kernel
theorem dL_law_532 : decode cL_law 532 = .ok (.iload 5, 2) := by decide +kernel
theorem dL_law_534 : decode cL_law 534 = .ok (.iconst 1, 1) := by decide +kernel
theorem dL_law_535 : decode cL_law 535 = .ok (.iadd, 1) := by decide +kernel
theorem dL_law_536 : decode cL_law 536 = .ok (.iaload, 1) := by decide +kernel
theorem dL_law_537 : decode cL_law 537 = .ok (.ifCond .eq 7, 3) := by decide +kernel
theorem dL_law_540 : decode cL_law 540 = .ok (.iconst 1, 1) := by decide +kernel
theorem dL_law_541 : decode cL_law 541 = .ok (.goto 4, 3) := by decide +kernel
theorem dL_law_544 : decode cL_law 544 = .ok (.iconst 0, 1) := by decide +kernel
theorem dL_law_545 : decode cL_law 545 = .ok (.invokevirtual 140, 3) := by decide +kernel
theorem dL_law_548 : decode cL_law 548 = .ok (.if_icmp .eq 1454, 3) := by decide +kernel
theorem dL_law_551 : decode cL_law 551 = .ok (.iconst 0, 1) := by decide +kernel
theorem dL_law_552 : decode cL_law 552 = .ok (.ireturn, 1) := by decide +kernel
theorem dL_law_553 : decode cL_law 553 = .ok (.aload_n 1, 1) := by decide +kernel
theorem dL_law_554 : decode cL_law 554 = .ok (.aload_n 0, 1) := by decide +kernel
theorem dL_law_555 : decode cL_law 555 = .ok (.iload 5, 2) := by decide +kernel
theorem dL_law_557 : decode cL_law 557 = .ok (.iconst 1, 1) := by decide +kernel
theorem dL_law_558 : decode cL_law 558 = .ok (.iadd, 1) := by decide +kernel
theorem dL_law_559 : decode cL_law 559 = .ok (.iaload, 1) := by decide +kernel
theorem dL_law_560 : decode cL_law 560 = .ok (.aload_n 0, 1) := by decide +kernel
theorem dL_law_561 : decode cL_law 561 = .ok (.iload 5, 2) := by decide +kernel
theorem dL_law_563 : decode cL_law 563 = .ok (.iconst 2, 1) := by decide +kernel
theorem dL_law_564 : decode cL_law 564 = .ok (.iadd, 1) := by decide +kernel
theorem dL_law_565 : decode cL_law 565 = .ok (.iaload, 1) := by decide +kernel
theorem dL_law_566 : decode cL_law 566 = .ok (.aload_n 3, 1) := by decide +kernel
theorem dL_law_567 : decode cL_law 567 = .ok (.invokestatic 141, 3) := by decide +kernel
theorem dL_law_570 : decode cL_law 570 = .ok (.istore 6, 2) := by decide +kernel
theorem dL_law_572 : decode cL_law 572 = .ok (.aload_n 2, 1) := by decide +kernel
theorem dL_law_573 : decode cL_law 573 = .ok (.aload_n 0, 1) := by decide +kernel
theorem dL_law_574 : decode cL_law 574 = .ok (.iload 5, 2) := by decide +kernel
theorem dL_law_576 : decode cL_law 576 = .ok (.iconst 1, 1) := by decide +kernel
theorem dL_law_577 : decode cL_law 577 = .ok (.iadd, 1) := by decide +kernel
theorem dL_law_578 : decode cL_law 578 = .ok (.iaload, 1) := by decide +kernel
theorem dL_law_579 : decode cL_law 579 = .ok (.aload_n 0, 1) := by decide +kernel
theorem dL_law_580 : decode cL_law 580 = .ok (.iload 5, 2) := by decide +kernel
theorem dL_law_582 : decode cL_law 582 = .ok (.iconst 2, 1) := by decide +kernel
theorem dL_law_583 : decode cL_law 583 = .ok (.iadd, 1) := by decide +kernel
theorem dL_law_584 : decode cL_law 584 = .ok (.iaload, 1) := by decide +kernel
theorem dL_law_585 : decode cL_law 585 = .ok (.invokevirtual 144, 3) := by decide +kernel
theorem dL_law_588 : decode cL_law 588 = .ok (.istore 7, 2) := by decide +kernel
theorem dL_law_590 : decode cL_law 590 = .ok (.aload_n 2, 1) := by decide +kernel
theorem dL_law_591 : decode cL_law 591 = .ok (.invokevirtual 114, 3) := by decide +kernel
theorem dL_law_594 : decode cL_law 594 = .ok (.iload 6, 2) := by decide +kernel
theorem dL_law_596 : decode cL_law 596 = .ok (.if_icmp .eq 5, 3) := by decide +kernel
theorem dL_law_599 : decode cL_law 599 = .ok (.iconst 0, 1) := by decide +kernel
theorem dL_law_600 : decode cL_law 600 = .ok (.ireturn, 1) := by decide +kernel
theorem dL_law_601 : decode cL_law 601 = .ok (.iload 6, 2) := by decide +kernel
theorem dL_law_603 : decode cL_law 603 = .ok (.ifCond .ne 15, 3) := by decide +kernel
theorem dL_law_606 : decode cL_law 606 = .ok (.aload_n 3, 1) := by decide +kernel
theorem dL_law_607 : decode cL_law 607 = .ok (.iconst 0, 1) := by decide +kernel
theorem dL_law_608 : decode cL_law 608 = .ok (.laload, 1) := by decide +kernel
theorem dL_law_609 : decode cL_law 609 = .ok (.iload 7, 2) := by decide +kernel
theorem dL_law_611 : decode cL_law 611 = .ok (.i2l, 1) := by decide +kernel
theorem dL_law_612 : decode cL_law 612 = .ok (.lcmp, 1) := by decide +kernel
theorem dL_law_613 : decode cL_law 613 = .ok (.ifCond .eq 5, 3) := by decide +kernel
theorem dL_law_616 : decode cL_law 616 = .ok (.iconst 0, 1) := by decide +kernel
theorem dL_law_617 : decode cL_law 617 = .ok (.ireturn, 1) := by decide +kernel
theorem dL_law_618 : decode cL_law 618 = .ok (.goto 1384, 3) := by decide +kernel
theorem dL_law_621 : decode cL_law 621 = .ok (.aload_n 1, 1) := by decide +kernel
theorem dL_law_622 : decode cL_law 622 = .ok (.aload_n 0, 1) := by decide +kernel
theorem dL_law_623 : decode cL_law 623 = .ok (.iload 5, 2) := by decide +kernel
theorem dL_law_625 : decode cL_law 625 = .ok (.iconst 1, 1) := by decide +kernel
theorem dL_law_626 : decode cL_law 626 = .ok (.iadd, 1) := by decide +kernel
theorem dL_law_627 : decode cL_law 627 = .ok (.iaload, 1) := by decide +kernel
theorem dL_law_628 : decode cL_law 628 = .ok (.aload_n 0, 1) := by decide +kernel
theorem dL_law_629 : decode cL_law 629 = .ok (.iload 5, 2) := by decide +kernel
theorem dL_law_631 : decode cL_law 631 = .ok (.iconst 2, 1) := by decide +kernel
theorem dL_law_632 : decode cL_law 632 = .ok (.iadd, 1) := by decide +kernel
theorem dL_law_633 : decode cL_law 633 = .ok (.iaload, 1) := by decide +kernel
theorem dL_law_634 : decode cL_law 634 = .ok (.aload_n 3, 1) := by decide +kernel
theorem dL_law_635 : decode cL_law 635 = .ok (.invokestatic 145, 3) := by decide +kernel
theorem dL_law_638 : decode cL_law 638 = .ok (.istore 6, 2) := by decide +kernel
theorem dL_law_640 : decode cL_law 640 = .ok (.aload_n 2, 1) := by decide +kernel
theorem dL_law_641 : decode cL_law 641 = .ok (.aload_n 0, 1) := by decide +kernel
theorem dL_law_642 : decode cL_law 642 = .ok (.iload 5, 2) := by decide +kernel
theorem dL_law_644 : decode cL_law 644 = .ok (.iconst 1, 1) := by decide +kernel
theorem dL_law_645 : decode cL_law 645 = .ok (.iadd, 1) := by decide +kernel
theorem dL_law_646 : decode cL_law 646 = .ok (.iaload, 1) := by decide +kernel
theorem dL_law_647 : decode cL_law 647 = .ok (.aload_n 0, 1) := by decide +kernel
theorem dL_law_648 : decode cL_law 648 = .ok (.iload 5, 2) := by decide +kernel
theorem dL_law_650 : decode cL_law 650 = .ok (.iconst 2, 1) := by decide +kernel
theorem dL_law_651 : decode cL_law 651 = .ok (.iadd, 1) := by decide +kernel
theorem dL_law_652 : decode cL_law 652 = .ok (.iaload, 1) := by decide +kernel
theorem dL_law_653 : decode cL_law 653 = .ok (.invokevirtual 147, 3) := by decide +kernel
theorem dL_law_656 : decode cL_law 656 = .ok (.istore 7, 2) := by decide +kernel
theorem dL_law_658 : decode cL_law 658 = .ok (.aload_n 2, 1) := by decide +kernel
theorem dL_law_659 : decode cL_law 659 = .ok (.invokevirtual 114, 3) := by decide +kernel
theorem dL_law_662 : decode cL_law 662 = .ok (.iload 6, 2) := by decide +kernel
theorem dL_law_664 : decode cL_law 664 = .ok (.if_icmp .eq 5, 3) := by decide +kernel
theorem dL_law_667 : decode cL_law 667 = .ok (.iconst 0, 1) := by decide +kernel
theorem dL_law_668 : decode cL_law 668 = .ok (.ireturn, 1) := by decide +kernel
theorem dL_law_669 : decode cL_law 669 = .ok (.iload 6, 2) := by decide +kernel
theorem dL_law_671 : decode cL_law 671 = .ok (.ifCond .ne 22, 3) := by decide +kernel
theorem dL_law_674 : decode cL_law 674 = .ok (.aload_n 3, 1) := by decide +kernel
theorem dL_law_675 : decode cL_law 675 = .ok (.iconst 0, 1) := by decide +kernel
theorem dL_law_676 : decode cL_law 676 = .ok (.laload, 1) := by decide +kernel
theorem dL_law_677 : decode cL_law 677 = .ok (.iload 7, 2) := by decide +kernel
theorem dL_law_679 : decode cL_law 679 = .ok (.ifCond .eq 7, 3) := by decide +kernel
theorem dL_law_682 : decode cL_law 682 = .ok (.lconst 1, 1) := by decide +kernel
theorem dL_law_683 : decode cL_law 683 = .ok (.goto 4, 3) := by decide +kernel
theorem dL_law_686 : decode cL_law 686 = .ok (.lconst 0, 1) := by decide +kernel
theorem dL_law_687 : decode cL_law 687 = .ok (.lcmp, 1) := by decide +kernel
theorem dL_law_688 : decode cL_law 688 = .ok (.ifCond .eq 5, 3) := by decide +kernel
theorem dL_law_691 : decode cL_law 691 = .ok (.iconst 0, 1) := by decide +kernel
theorem dL_law_692 : decode cL_law 692 = .ok (.ireturn, 1) := by decide +kernel
theorem dL_law_693 : decode cL_law 693 = .ok (.goto 1309, 3) := by decide +kernel
theorem dL_law_696 : decode cL_law 696 = .ok (.aload_n 1, 1) := by decide +kernel
theorem dL_law_697 : decode cL_law 697 = .ok (.aload_n 0, 1) := by decide +kernel
theorem dL_law_698 : decode cL_law 698 = .ok (.iload 5, 2) := by decide +kernel
theorem dL_law_700 : decode cL_law 700 = .ok (.iconst 1, 1) := by decide +kernel
theorem dL_law_701 : decode cL_law 701 = .ok (.iadd, 1) := by decide +kernel
theorem dL_law_702 : decode cL_law 702 = .ok (.iaload, 1) := by decide +kernel
theorem dL_law_703 : decode cL_law 703 = .ok (.aload_n 0, 1) := by decide +kernel
theorem dL_law_704 : decode cL_law 704 = .ok (.iload 5, 2) := by decide +kernel
theorem dL_law_706 : decode cL_law 706 = .ok (.iconst 2, 1) := by decide +kernel
theorem dL_law_707 : decode cL_law 707 = .ok (.iadd, 1) := by decide +kernel
theorem dL_law_708 : decode cL_law 708 = .ok (.iaload, 1) := by decide +kernel
theorem dL_law_709 : decode cL_law 709 = .ok (.aload_n 3, 1) := by decide +kernel
theorem dL_law_710 : decode cL_law 710 = .ok (.invokestatic 148, 3) := by decide +kernel
theorem dL_law_713 : decode cL_law 713 = .ok (.istore 6, 2) := by decide +kernel
theorem dL_law_715 : decode cL_law 715 = .ok (.aload_n 2, 1) := by decide +kernel
theorem dL_law_716 : decode cL_law 716 = .ok (.aload_n 0, 1) := by decide +kernel
theorem dL_law_717 : decode cL_law 717 = .ok (.iload 5, 2) := by decide +kernel
theorem dL_law_719 : decode cL_law 719 = .ok (.iconst 1, 1) := by decide +kernel
theorem dL_law_720 : decode cL_law 720 = .ok (.iadd, 1) := by decide +kernel
theorem dL_law_721 : decode cL_law 721 = .ok (.iaload, 1) := by decide +kernel
theorem dL_law_722 : decode cL_law 722 = .ok (.aload_n 0, 1) := by decide +kernel
theorem dL_law_723 : decode cL_law 723 = .ok (.iload 5, 2) := by decide +kernel
theorem dL_law_725 : decode cL_law 725 = .ok (.iconst 2, 1) := by decide +kernel
theorem dL_law_726 : decode cL_law 726 = .ok (.iadd, 1) := by decide +kernel
theorem dL_law_727 : decode cL_law 727 = .ok (.iaload, 1) := by decide +kernel
theorem dL_law_728 : decode cL_law 728 = .ok (.invokevirtual 150, 3) := by decide +kernel
theorem dL_law_731 : decode cL_law 731 = .ok (.istore 7, 2) := by decide +kernel
theorem dL_law_733 : decode cL_law 733 = .ok (.aload_n 2, 1) := by decide +kernel
theorem dL_law_734 : decode cL_law 734 = .ok (.invokevirtual 114, 3) := by decide +kernel
theorem dL_law_737 : decode cL_law 737 = .ok (.iload 6, 2) := by decide +kernel
theorem dL_law_739 : decode cL_law 739 = .ok (.if_icmp .eq 5, 3) := by decide +kernel
theorem dL_law_742 : decode cL_law 742 = .ok (.iconst 0, 1) := by decide +kernel
theorem dL_law_743 : decode cL_law 743 = .ok (.ireturn, 1) := by decide +kernel
theorem dL_law_744 : decode cL_law 744 = .ok (.iload 6, 2) := by decide +kernel
end
section
theorem dL_law_746 : decode cL_law 746 = .ok (.ifCond .ne 22, 3) := by decide +kernel
theorem dL_law_749 : decode cL_law 749 = .ok (.aload_n 3, 1) := by decide +kernel
theorem dL_law_750 : decode cL_law 750 = .ok (.iconst 0, 1) := by decide +kernel
theorem dL_law_751 : decode cL_law 751 = .ok (.laload, 1) := by decide +kernel
theorem dL_law_752 : decode cL_law 752 = .ok (.iload 7, 2) := by decide +kernel
theorem dL_law_754 : decode cL_law 754 = .ok (.ifCond .eq 7, 3) := by decide +kernel
theorem dL_law_757 : decode cL_law 757 = .ok (.lconst 1, 1) := by decide +kernel
theorem dL_law_758 : decode cL_law 758 = .ok (.goto 4, 3) := by decide +kernel
theorem dL_law_761 : decode cL_law 761 = .ok (.lconst 0, 1) := by decide +kernel
theorem dL_law_762 : decode cL_law 762 = .ok (.lcmp, 1) := by decide +kernel
theorem dL_law_763 : decode cL_law 763 = .ok (.ifCond .eq 5, 3) := by decide +kernel
theorem dL_law_766 : decode cL_law 766 = .ok (.iconst 0, 1) := by decide +kernel
theorem dL_law_767 : decode cL_law 767 = .ok (.ireturn, 1) := by decide +kernel
theorem dL_law_768 : decode cL_law 768 = .ok (.goto 1234, 3) := by decide +kernel
theorem dL_law_771 : decode cL_law 771 = .ok (.aload_n 1, 1) := by decide +kernel
theorem dL_law_772 : decode cL_law 772 = .ok (.aload_n 0, 1) := by decide +kernel
theorem dL_law_773 : decode cL_law 773 = .ok (.iload 5, 2) := by decide +kernel
theorem dL_law_775 : decode cL_law 775 = .ok (.iconst 1, 1) := by decide +kernel
theorem dL_law_776 : decode cL_law 776 = .ok (.iadd, 1) := by decide +kernel
theorem dL_law_777 : decode cL_law 777 = .ok (.iaload, 1) := by decide +kernel
theorem dL_law_778 : decode cL_law 778 = .ok (.aload_n 0, 1) := by decide +kernel
theorem dL_law_779 : decode cL_law 779 = .ok (.iload 5, 2) := by decide +kernel
theorem dL_law_781 : decode cL_law 781 = .ok (.iconst 2, 1) := by decide +kernel
theorem dL_law_782 : decode cL_law 782 = .ok (.iadd, 1) := by decide +kernel
theorem dL_law_783 : decode cL_law 783 = .ok (.iaload, 1) := by decide +kernel
theorem dL_law_784 : decode cL_law 784 = .ok (.aload_n 3, 1) := by decide +kernel
theorem dL_law_785 : decode cL_law 785 = .ok (.invokestatic 151, 3) := by decide +kernel
theorem dL_law_788 : decode cL_law 788 = .ok (.istore 6, 2) := by decide +kernel
theorem dL_law_790 : decode cL_law 790 = .ok (.aload_n 2, 1) := by decide +kernel
theorem dL_law_791 : decode cL_law 791 = .ok (.aload_n 0, 1) := by decide +kernel
theorem dL_law_792 : decode cL_law 792 = .ok (.iload 5, 2) := by decide +kernel
theorem dL_law_794 : decode cL_law 794 = .ok (.iconst 1, 1) := by decide +kernel
theorem dL_law_795 : decode cL_law 795 = .ok (.iadd, 1) := by decide +kernel
theorem dL_law_796 : decode cL_law 796 = .ok (.iaload, 1) := by decide +kernel
theorem dL_law_797 : decode cL_law 797 = .ok (.aload_n 0, 1) := by decide +kernel
theorem dL_law_798 : decode cL_law 798 = .ok (.iload 5, 2) := by decide +kernel
theorem dL_law_800 : decode cL_law 800 = .ok (.iconst 2, 1) := by decide +kernel
theorem dL_law_801 : decode cL_law 801 = .ok (.iadd, 1) := by decide +kernel
theorem dL_law_802 : decode cL_law 802 = .ok (.iaload, 1) := by decide +kernel
theorem dL_law_803 : decode cL_law 803 = .ok (.invokevirtual 153, 3) := by decide +kernel
theorem dL_law_806 : decode cL_law 806 = .ok (.istore 7, 2) := by decide +kernel
theorem dL_law_808 : decode cL_law 808 = .ok (.aload_n 2, 1) := by decide +kernel
theorem dL_law_809 : decode cL_law 809 = .ok (.invokevirtual 114, 3) := by decide +kernel
theorem dL_law_812 : decode cL_law 812 = .ok (.iload 6, 2) := by decide +kernel
theorem dL_law_814 : decode cL_law 814 = .ok (.if_icmp .eq 5, 3) := by decide +kernel
theorem dL_law_817 : decode cL_law 817 = .ok (.iconst 0, 1) := by decide +kernel
theorem dL_law_818 : decode cL_law 818 = .ok (.ireturn, 1) := by decide +kernel
theorem dL_law_819 : decode cL_law 819 = .ok (.iload 6, 2) := by decide +kernel
theorem dL_law_821 : decode cL_law 821 = .ok (.ifCond .ne 22, 3) := by decide +kernel
theorem dL_law_824 : decode cL_law 824 = .ok (.aload_n 3, 1) := by decide +kernel
theorem dL_law_825 : decode cL_law 825 = .ok (.iconst 0, 1) := by decide +kernel
theorem dL_law_826 : decode cL_law 826 = .ok (.laload, 1) := by decide +kernel
theorem dL_law_827 : decode cL_law 827 = .ok (.iload 7, 2) := by decide +kernel
theorem dL_law_829 : decode cL_law 829 = .ok (.ifCond .eq 7, 3) := by decide +kernel
theorem dL_law_832 : decode cL_law 832 = .ok (.lconst 1, 1) := by decide +kernel
theorem dL_law_833 : decode cL_law 833 = .ok (.goto 4, 3) := by decide +kernel
theorem dL_law_836 : decode cL_law 836 = .ok (.lconst 0, 1) := by decide +kernel
theorem dL_law_837 : decode cL_law 837 = .ok (.lcmp, 1) := by decide +kernel
theorem dL_law_838 : decode cL_law 838 = .ok (.ifCond .eq 5, 3) := by decide +kernel
theorem dL_law_841 : decode cL_law 841 = .ok (.iconst 0, 1) := by decide +kernel
theorem dL_law_842 : decode cL_law 842 = .ok (.ireturn, 1) := by decide +kernel
theorem dL_law_843 : decode cL_law 843 = .ok (.goto 1159, 3) := by decide +kernel
theorem dL_law_846 : decode cL_law 846 = .ok (.aload_n 1, 1) := by decide +kernel
theorem dL_law_847 : decode cL_law 847 = .ok (.aload_n 0, 1) := by decide +kernel
theorem dL_law_848 : decode cL_law 848 = .ok (.iload 5, 2) := by decide +kernel
theorem dL_law_850 : decode cL_law 850 = .ok (.iconst 1, 1) := by decide +kernel
theorem dL_law_851 : decode cL_law 851 = .ok (.iadd, 1) := by decide +kernel
theorem dL_law_852 : decode cL_law 852 = .ok (.iaload, 1) := by decide +kernel
theorem dL_law_853 : decode cL_law 853 = .ok (.aload_n 0, 1) := by decide +kernel
theorem dL_law_854 : decode cL_law 854 = .ok (.iload 5, 2) := by decide +kernel
theorem dL_law_856 : decode cL_law 856 = .ok (.iconst 2, 1) := by decide +kernel
theorem dL_law_857 : decode cL_law 857 = .ok (.iadd, 1) := by decide +kernel
theorem dL_law_858 : decode cL_law 858 = .ok (.iaload, 1) := by decide +kernel
theorem dL_law_859 : decode cL_law 859 = .ok (.aload_n 0, 1) := by decide +kernel
theorem dL_law_860 : decode cL_law 860 = .ok (.iload 5, 2) := by decide +kernel
theorem dL_law_862 : decode cL_law 862 = .ok (.iconst 3, 1) := by decide +kernel
theorem dL_law_863 : decode cL_law 863 = .ok (.iadd, 1) := by decide +kernel
theorem dL_law_864 : decode cL_law 864 = .ok (.iaload, 1) := by decide +kernel
theorem dL_law_865 : decode cL_law 865 = .ok (.aload_n 3, 1) := by decide +kernel
theorem dL_law_866 : decode cL_law 866 = .ok (.invokestatic 154, 3) := by decide +kernel
theorem dL_law_869 : decode cL_law 869 = .ok (.istore 6, 2) := by decide +kernel
theorem dL_law_871 : decode cL_law 871 = .ok (.aload_n 2, 1) := by decide +kernel
theorem dL_law_872 : decode cL_law 872 = .ok (.aload_n 0, 1) := by decide +kernel
theorem dL_law_873 : decode cL_law 873 = .ok (.iload 5, 2) := by decide +kernel
theorem dL_law_875 : decode cL_law 875 = .ok (.iconst 1, 1) := by decide +kernel
theorem dL_law_876 : decode cL_law 876 = .ok (.iadd, 1) := by decide +kernel
theorem dL_law_877 : decode cL_law 877 = .ok (.iaload, 1) := by decide +kernel
theorem dL_law_878 : decode cL_law 878 = .ok (.aload_n 0, 1) := by decide +kernel
theorem dL_law_879 : decode cL_law 879 = .ok (.iload 5, 2) := by decide +kernel
theorem dL_law_881 : decode cL_law 881 = .ok (.iconst 2, 1) := by decide +kernel
theorem dL_law_882 : decode cL_law 882 = .ok (.iadd, 1) := by decide +kernel
theorem dL_law_883 : decode cL_law 883 = .ok (.iaload, 1) := by decide +kernel
theorem dL_law_884 : decode cL_law 884 = .ok (.aload_n 0, 1) := by decide +kernel
theorem dL_law_885 : decode cL_law 885 = .ok (.iload 5, 2) := by decide +kernel
theorem dL_law_887 : decode cL_law 887 = .ok (.iconst 3, 1) := by decide +kernel
theorem dL_law_888 : decode cL_law 888 = .ok (.iadd, 1) := by decide +kernel
theorem dL_law_889 : decode cL_law 889 = .ok (.iaload, 1) := by decide +kernel
theorem dL_law_890 : decode cL_law 890 = .ok (.invokevirtual 156, 3) := by decide +kernel
theorem dL_law_893 : decode cL_law 893 = .ok (.istore 7, 2) := by decide +kernel
theorem dL_law_895 : decode cL_law 895 = .ok (.aload_n 2, 1) := by decide +kernel
theorem dL_law_896 : decode cL_law 896 = .ok (.invokevirtual 114, 3) := by decide +kernel
theorem dL_law_899 : decode cL_law 899 = .ok (.iload 6, 2) := by decide +kernel
theorem dL_law_901 : decode cL_law 901 = .ok (.if_icmp .eq 5, 3) := by decide +kernel
theorem dL_law_904 : decode cL_law 904 = .ok (.iconst 0, 1) := by decide +kernel
theorem dL_law_905 : decode cL_law 905 = .ok (.ireturn, 1) := by decide +kernel
theorem dL_law_906 : decode cL_law 906 = .ok (.iload 6, 2) := by decide +kernel
theorem dL_law_908 : decode cL_law 908 = .ok (.ifCond .ne 22, 3) := by decide +kernel
theorem dL_law_911 : decode cL_law 911 = .ok (.aload_n 3, 1) := by decide +kernel
theorem dL_law_912 : decode cL_law 912 = .ok (.iconst 0, 1) := by decide +kernel
theorem dL_law_913 : decode cL_law 913 = .ok (.laload, 1) := by decide +kernel
theorem dL_law_914 : decode cL_law 914 = .ok (.iload 7, 2) := by decide +kernel
theorem dL_law_916 : decode cL_law 916 = .ok (.ifCond .eq 7, 3) := by decide +kernel
theorem dL_law_919 : decode cL_law 919 = .ok (.lconst 1, 1) := by decide +kernel
theorem dL_law_920 : decode cL_law 920 = .ok (.goto 4, 3) := by decide +kernel
theorem dL_law_923 : decode cL_law 923 = .ok (.lconst 0, 1) := by decide +kernel
theorem dL_law_924 : decode cL_law 924 = .ok (.lcmp, 1) := by decide +kernel
theorem dL_law_925 : decode cL_law 925 = .ok (.ifCond .eq 5, 3) := by decide +kernel
theorem dL_law_928 : decode cL_law 928 = .ok (.iconst 0, 1) := by decide +kernel
theorem dL_law_929 : decode cL_law 929 = .ok (.ireturn, 1) := by decide +kernel
theorem dL_law_930 : decode cL_law 930 = .ok (.goto 1072, 3) := by decide +kernel
theorem dL_law_933 : decode cL_law 933 = .ok (.aload_n 1, 1) := by decide +kernel
theorem dL_law_934 : decode cL_law 934 = .ok (.aload_n 0, 1) := by decide +kernel
theorem dL_law_935 : decode cL_law 935 = .ok (.iload 5, 2) := by decide +kernel
theorem dL_law_937 : decode cL_law 937 = .ok (.iconst 1, 1) := by decide +kernel
theorem dL_law_938 : decode cL_law 938 = .ok (.iadd, 1) := by decide +kernel
theorem dL_law_939 : decode cL_law 939 = .ok (.iaload, 1) := by decide +kernel
theorem dL_law_940 : decode cL_law 940 = .ok (.aload_n 3, 1) := by decide +kernel
theorem dL_law_941 : decode cL_law 941 = .ok (.invokestatic 157, 3) := by decide +kernel
theorem dL_law_944 : decode cL_law 944 = .ok (.istore 6, 2) := by decide +kernel
theorem dL_law_946 : decode cL_law 946 = .ok (.aload_n 2, 1) := by decide +kernel
theorem dL_law_947 : decode cL_law 947 = .ok (.aload_n 0, 1) := by decide +kernel
theorem dL_law_948 : decode cL_law 948 = .ok (.iload 5, 2) := by decide +kernel
theorem dL_law_950 : decode cL_law 950 = .ok (.iconst 1, 1) := by decide +kernel
theorem dL_law_951 : decode cL_law 951 = .ok (.iadd, 1) := by decide +kernel
theorem dL_law_952 : decode cL_law 952 = .ok (.iaload, 1) := by decide +kernel
theorem dL_law_953 : decode cL_law 953 = .ok (.invokevirtual 159, 3) := by decide +kernel
theorem dL_law_956 : decode cL_law 956 = .ok (.istore 7, 2) := by decide +kernel
theorem dL_law_958 : decode cL_law 958 = .ok (.aload_n 2, 1) := by decide +kernel
theorem dL_law_959 : decode cL_law 959 = .ok (.invokevirtual 114, 3) := by decide +kernel
theorem dL_law_962 : decode cL_law 962 = .ok (.iload 6, 2) := by decide +kernel
theorem dL_law_964 : decode cL_law 964 = .ok (.if_icmp .eq 5, 3) := by decide +kernel
theorem dL_law_967 : decode cL_law 967 = .ok (.iconst 0, 1) := by decide +kernel
theorem dL_law_968 : decode cL_law 968 = .ok (.ireturn, 1) := by decide +kernel
theorem dL_law_969 : decode cL_law 969 = .ok (.iload 6, 2) := by decide +kernel
theorem dL_law_971 : decode cL_law 971 = .ok (.ifCond .ne 15, 3) := by decide +kernel
theorem dL_law_974 : decode cL_law 974 = .ok (.aload_n 3, 1) := by decide +kernel
theorem dL_law_975 : decode cL_law 975 = .ok (.iconst 0, 1) := by decide +kernel
theorem dL_law_976 : decode cL_law 976 = .ok (.laload, 1) := by decide +kernel
theorem dL_law_977 : decode cL_law 977 = .ok (.iload 7, 2) := by decide +kernel
theorem dL_law_979 : decode cL_law 979 = .ok (.i2l, 1) := by decide +kernel
theorem dL_law_980 : decode cL_law 980 = .ok (.lcmp, 1) := by decide +kernel
theorem dL_law_981 : decode cL_law 981 = .ok (.ifCond .eq 5, 3) := by decide +kernel
theorem dL_law_984 : decode cL_law 984 = .ok (.iconst 0, 1) := by decide +kernel
theorem dL_law_985 : decode cL_law 985 = .ok (.ireturn, 1) := by decide +kernel
theorem dL_law_986 : decode cL_law 986 = .ok (.goto 1016, 3) := by decide +kernel
theorem dL_law_989 : decode cL_law 989 = .ok (.aload_n 1, 1) := by decide +kernel
theorem dL_law_990 : decode cL_law 990 = .ok (.aload_n 0, 1) := by decide +kernel
theorem dL_law_991 : decode cL_law 991 = .ok (.iload 5, 2) := by decide +kernel
theorem dL_law_993 : decode cL_law 993 = .ok (.iconst 1, 1) := by decide +kernel
theorem dL_law_994 : decode cL_law 994 = .ok (.iadd, 1) := by decide +kernel
theorem dL_law_995 : decode cL_law 995 = .ok (.iaload, 1) := by decide +kernel
theorem dL_law_996 : decode cL_law 996 = .ok (.aload_n 0, 1) := by decide +kernel
theorem dL_law_997 : decode cL_law 997 = .ok (.iload 5, 2) := by decide +kernel
theorem dL_law_999 : decode cL_law 999 = .ok (.iconst 2, 1) := by decide +kernel
theorem dL_law_1000 : decode cL_law 1000 = .ok (.iadd, 1) := by decide +kernel
theorem dL_law_1001 : decode cL_law 1001 = .ok (.iaload, 1) := by decide +kernel
theorem dL_law_1002 : decode cL_law 1002 = .ok (.aload_n 3, 1) := by decide +kernel
theorem dL_law_1003 : decode cL_law 1003 = .ok (.invokestatic 160, 3) := by decide +kernel
theorem dL_law_1006 : decode cL_law 1006 = .ok (.istore 6, 2) := by decide +kernel
theorem dL_law_1008 : decode cL_law 1008 = .ok (.aload_n 2, 1) := by decide +kernel
theorem dL_law_1009 : decode cL_law 1009 = .ok (.aload_n 0, 1) := by decide +kernel
theorem dL_law_1010 : decode cL_law 1010 = .ok (.iload 5, 2) := by decide +kernel
theorem dL_law_1012 : decode cL_law 1012 = .ok (.iconst 1, 1) := by decide +kernel
theorem dL_law_1013 : decode cL_law 1013 = .ok (.iadd, 1) := by decide +kernel
theorem dL_law_1014 : decode cL_law 1014 = .ok (.iaload, 1) := by decide +kernel
theorem dL_law_1015 : decode cL_law 1015 = .ok (.aload_n 0, 1) := by decide +kernel
theorem dL_law_1016 : decode cL_law 1016 = .ok (.iload 5, 2) := by decide +kernel
theorem dL_law_1018 : decode cL_law 1018 = .ok (.iconst 2, 1) := by decide +kernel
theorem dL_law_1019 : decode cL_law 1019 = .ok (.iadd, 1) := by decide +kernel
theorem dL_law_1020 : decode cL_law 1020 = .ok (.iaload, 1) := by decide +kernel
theorem dL_law_1021 : decode cL_law 1021 = .ok (.invokevirtual 162, 3) := by decide +kernel
theorem dL_law_1024 : decode cL_law 1024 = .ok (.istore 7, 2) := by decide +kernel
theorem dL_law_1026 : decode cL_law 1026 = .ok (.aload_n 2, 1) := by decide +kernel
theorem dL_law_1027 : decode cL_law 1027 = .ok (.invokevirtual 114, 3) := by decide +kernel
theorem dL_law_1030 : decode cL_law 1030 = .ok (.iload 6, 2) := by decide +kernel
theorem dL_law_1032 : decode cL_law 1032 = .ok (.if_icmp .eq 5, 3) := by decide +kernel
theorem dL_law_1035 : decode cL_law 1035 = .ok (.iconst 0, 1) := by decide +kernel
theorem dL_law_1036 : decode cL_law 1036 = .ok (.ireturn, 1) := by decide +kernel
theorem dL_law_1037 : decode cL_law 1037 = .ok (.iload 6, 2) := by decide +kernel
theorem dL_law_1039 : decode cL_law 1039 = .ok (.ifCond .ne 15, 3) := by decide +kernel
theorem dL_law_1042 : decode cL_law 1042 = .ok (.aload_n 3, 1) := by decide +kernel
theorem dL_law_1043 : decode cL_law 1043 = .ok (.iconst 0, 1) := by decide +kernel
theorem dL_law_1044 : decode cL_law 1044 = .ok (.laload, 1) := by decide +kernel
theorem dL_law_1045 : decode cL_law 1045 = .ok (.iload 7, 2) := by decide +kernel
theorem dL_law_1047 : decode cL_law 1047 = .ok (.i2l, 1) := by decide +kernel
theorem dL_law_1048 : decode cL_law 1048 = .ok (.lcmp, 1) := by decide +kernel
theorem dL_law_1049 : decode cL_law 1049 = .ok (.ifCond .eq 5, 3) := by decide +kernel
theorem dL_law_1052 : decode cL_law 1052 = .ok (.iconst 0, 1) := by decide +kernel
theorem dL_law_1053 : decode cL_law 1053 = .ok (.ireturn, 1) := by decide +kernel
theorem dL_law_1054 : decode cL_law 1054 = .ok (.goto 948, 3) := by decide +kernel
theorem dL_law_1057 : decode cL_law 1057 = .ok (.aload_n 1, 1) := by decide +kernel
theorem dL_law_1058 : decode cL_law 1058 = .ok (.aload_n 0, 1) := by decide +kernel
theorem dL_law_1059 : decode cL_law 1059 = .ok (.iload 5, 2) := by decide +kernel
theorem dL_law_1061 : decode cL_law 1061 = .ok (.iconst 1, 1) := by decide +kernel
theorem dL_law_1062 : decode cL_law 1062 = .ok (.iadd, 1) := by decide +kernel
theorem dL_law_1063 : decode cL_law 1063 = .ok (.iaload, 1) := by decide +kernel
theorem dL_law_1064 : decode cL_law 1064 = .ok (.aload_n 0, 1) := by decide +kernel
theorem dL_law_1065 : decode cL_law 1065 = .ok (.iload 5, 2) := by decide +kernel
theorem dL_law_1067 : decode cL_law 1067 = .ok (.iconst 2, 1) := by decide +kernel
theorem dL_law_1068 : decode cL_law 1068 = .ok (.iadd, 1) := by decide +kernel
theorem dL_law_1069 : decode cL_law 1069 = .ok (.iaload, 1) := by decide +kernel
theorem dL_law_1070 : decode cL_law 1070 = .ok (.aload_n 0, 1) := by decide +kernel
theorem dL_law_1071 : decode cL_law 1071 = .ok (.iload 5, 2) := by decide +kernel
theorem dL_law_1073 : decode cL_law 1073 = .ok (.iconst 3, 1) := by decide +kernel
theorem dL_law_1074 : decode cL_law 1074 = .ok (.iadd, 1) := by decide +kernel
theorem dL_law_1075 : decode cL_law 1075 = .ok (.iaload, 1) := by decide +kernel
theorem dL_law_1076 : decode cL_law 1076 = .ok (.aload_n 0, 1) := by decide +kernel
theorem dL_law_1077 : decode cL_law 1077 = .ok (.iload 5, 2) := by decide +kernel
theorem dL_law_1079 : decode cL_law 1079 = .ok (.iconst 4, 1) := by decide +kernel
theorem dL_law_1080 : decode cL_law 1080 = .ok (.iadd, 1) := by decide +kernel
theorem dL_law_1081 : decode cL_law 1081 = .ok (.iaload, 1) := by decide +kernel
theorem dL_law_1082 : decode cL_law 1082 = .ok (.ifCond .eq 7, 3) := by decide +kernel
theorem dL_law_1085 : decode cL_law 1085 = .ok (.iconst 1, 1) := by decide +kernel
theorem dL_law_1086 : decode cL_law 1086 = .ok (.goto 4, 3) := by decide +kernel
theorem dL_law_1089 : decode cL_law 1089 = .ok (.iconst 0, 1) := by decide +kernel
theorem dL_law_1090 : decode cL_law 1090 = .ok (.aload_n 3, 1) := by decide +kernel
theorem dL_law_1091 : decode cL_law 1091 = .ok (.invokestatic 163, 3) := by decide +kernel
theorem dL_law_1094 : decode cL_law 1094 = .ok (.istore 6, 2) := by decide +kernel
theorem dL_law_1096 : decode cL_law 1096 = .ok (.aload_n 2, 1) := by decide +kernel
theorem dL_law_1097 : decode cL_law 1097 = .ok (.aload_n 0, 1) := by decide +kernel
theorem dL_law_1098 : decode cL_law 1098 = .ok (.iload 5, 2) := by decide +kernel
theorem dL_law_1100 : decode cL_law 1100 = .ok (.iconst 1, 1) := by decide +kernel
theorem dL_law_1101 : decode cL_law 1101 = .ok (.iadd, 1) := by decide +kernel
theorem dL_law_1102 : decode cL_law 1102 = .ok (.iaload, 1) := by decide +kernel
theorem dL_law_1103 : decode cL_law 1103 = .ok (.aload_n 0, 1) := by decide +kernel
theorem dL_law_1104 : decode cL_law 1104 = .ok (.iload 5, 2) := by decide +kernel
theorem dL_law_1106 : decode cL_law 1106 = .ok (.iconst 2, 1) := by decide +kernel
theorem dL_law_1107 : decode cL_law 1107 = .ok (.iadd, 1) := by decide +kernel
theorem dL_law_1108 : decode cL_law 1108 = .ok (.iaload, 1) := by decide +kernel
theorem dL_law_1109 : decode cL_law 1109 = .ok (.aload_n 0, 1) := by decide +kernel
theorem dL_law_1110 : decode cL_law 1110 = .ok (.iload 5, 2) := by decide +kernel
theorem dL_law_1112 : decode cL_law 1112 = .ok (.iconst 3, 1) := by decide +kernel
theorem dL_law_1113 : decode cL_law 1113 = .ok (.iadd, 1) := by decide +kernel
theorem dL_law_1114 : decode cL_law 1114 = .ok (.iaload, 1) := by decide +kernel
theorem dL_law_1115 : decode cL_law 1115 = .ok (.aload_n 0, 1) := by decide +kernel
theorem dL_law_1116 : decode cL_law 1116 = .ok (.iload 5, 2) := by decide +kernel
theorem dL_law_1118 : decode cL_law 1118 = .ok (.iconst 4, 1) := by decide +kernel
theorem dL_law_1119 : decode cL_law 1119 = .ok (.iadd, 1) := by decide +kernel
theorem dL_law_1120 : decode cL_law 1120 = .ok (.iaload, 1) := by decide +kernel
theorem dL_law_1121 : decode cL_law 1121 = .ok (.ifCond .eq 7, 3) := by decide +kernel
theorem dL_law_1124 : decode cL_law 1124 = .ok (.iconst 1, 1) := by decide +kernel
theorem dL_law_1125 : decode cL_law 1125 = .ok (.goto 4, 3) := by decide +kernel
theorem dL_law_1128 : decode cL_law 1128 = .ok (.iconst 0, 1) := by decide +kernel
theorem dL_law_1129 : decode cL_law 1129 = .ok (.invokevirtual 166, 3) := by decide +kernel
theorem dL_law_1132 : decode cL_law 1132 = .ok (.istore 7, 2) := by decide +kernel
theorem dL_law_1134 : decode cL_law 1134 = .ok (.aload_n 2, 1) := by decide +kernel
theorem dL_law_1135 : decode cL_law 1135 = .ok (.invokevirtual 114, 3) := by decide +kernel
theorem dL_law_1138 : decode cL_law 1138 = .ok (.iload 6, 2) := by decide +kernel
theorem dL_law_1140 : decode cL_law 1140 = .ok (.if_icmp .eq 5, 3) := by decide +kernel
theorem dL_law_1143 : decode cL_law 1143 = .ok (.iconst 0, 1) := by decide +kernel
theorem dL_law_1144 : decode cL_law 1144 = .ok (.ireturn, 1) := by decide +kernel
theorem dL_law_1145 : decode cL_law 1145 = .ok (.iload 6, 2) := by decide +kernel
theorem dL_law_1147 : decode cL_law 1147 = .ok (.ifCond .ne 22, 3) := by decide +kernel
theorem dL_law_1150 : decode cL_law 1150 = .ok (.aload_n 3, 1) := by decide +kernel
theorem dL_law_1151 : decode cL_law 1151 = .ok (.iconst 0, 1) := by decide +kernel
theorem dL_law_1152 : decode cL_law 1152 = .ok (.laload, 1) := by decide +kernel
theorem dL_law_1153 : decode cL_law 1153 = .ok (.iload 7, 2) := by decide +kernel
theorem dL_law_1155 : decode cL_law 1155 = .ok (.ifCond .eq 7, 3) := by decide +kernel
theorem dL_law_1158 : decode cL_law 1158 = .ok (.lconst 1, 1) := by decide +kernel
theorem dL_law_1159 : decode cL_law 1159 = .ok (.goto 4, 3) := by decide +kernel
theorem dL_law_1162 : decode cL_law 1162 = .ok (.lconst 0, 1) := by decide +kernel
theorem dL_law_1163 : decode cL_law 1163 = .ok (.lcmp, 1) := by decide +kernel
theorem dL_law_1164 : decode cL_law 1164 = .ok (.ifCond .eq 5, 3) := by decide +kernel
theorem dL_law_1167 : decode cL_law 1167 = .ok (.iconst 0, 1) := by decide +kernel
theorem dL_law_1168 : decode cL_law 1168 = .ok (.ireturn, 1) := by decide +kernel
theorem dL_law_1169 : decode cL_law 1169 = .ok (.goto 833, 3) := by decide +kernel
theorem dL_law_1172 : decode cL_law 1172 = .ok (.aload_n 1, 1) := by decide +kernel
theorem dL_law_1173 : decode cL_law 1173 = .ok (.aload_n 0, 1) := by decide +kernel
theorem dL_law_1174 : decode cL_law 1174 = .ok (.iload 5, 2) := by decide +kernel
theorem dL_law_1176 : decode cL_law 1176 = .ok (.iconst 1, 1) := by decide +kernel
theorem dL_law_1177 : decode cL_law 1177 = .ok (.iadd, 1) := by decide +kernel
theorem dL_law_1178 : decode cL_law 1178 = .ok (.iaload, 1) := by decide +kernel
theorem dL_law_1179 : decode cL_law 1179 = .ok (.aload_n 0, 1) := by decide +kernel
theorem dL_law_1180 : decode cL_law 1180 = .ok (.iload 5, 2) := by decide +kernel
theorem dL_law_1182 : decode cL_law 1182 = .ok (.iconst 2, 1) := by decide +kernel
theorem dL_law_1183 : decode cL_law 1183 = .ok (.iadd, 1) := by decide +kernel
theorem dL_law_1184 : decode cL_law 1184 = .ok (.iaload, 1) := by decide +kernel
theorem dL_law_1185 : decode cL_law 1185 = .ok (.ifCond .eq 7, 3) := by decide +kernel
theorem dL_law_1188 : decode cL_law 1188 = .ok (.iconst 1, 1) := by decide +kernel
theorem dL_law_1189 : decode cL_law 1189 = .ok (.goto 4, 3) := by decide +kernel
theorem dL_law_1192 : decode cL_law 1192 = .ok (.iconst 0, 1) := by decide +kernel
theorem dL_law_1193 : decode cL_law 1193 = .ok (.aload 4, 2) := by decide +kernel
theorem dL_law_1195 : decode cL_law 1195 = .ok (.invokestatic 167, 3) := by decide +kernel
theorem dL_law_1198 : decode cL_law 1198 = .ok (.istore 6, 2) := by decide +kernel
theorem dL_law_1200 : decode cL_law 1200 = .ok (.aload_n 2, 1) := by decide +kernel
theorem dL_law_1201 : decode cL_law 1201 = .ok (.aload_n 0, 1) := by decide +kernel
theorem dL_law_1202 : decode cL_law 1202 = .ok (.iload 5, 2) := by decide +kernel
theorem dL_law_1204 : decode cL_law 1204 = .ok (.iconst 1, 1) := by decide +kernel
theorem dL_law_1205 : decode cL_law 1205 = .ok (.iadd, 1) := by decide +kernel
theorem dL_law_1206 : decode cL_law 1206 = .ok (.iaload, 1) := by decide +kernel
theorem dL_law_1207 : decode cL_law 1207 = .ok (.aload_n 0, 1) := by decide +kernel
theorem dL_law_1208 : decode cL_law 1208 = .ok (.iload 5, 2) := by decide +kernel
theorem dL_law_1210 : decode cL_law 1210 = .ok (.iconst 2, 1) := by decide +kernel
theorem dL_law_1211 : decode cL_law 1211 = .ok (.iadd, 1) := by decide +kernel
theorem dL_law_1212 : decode cL_law 1212 = .ok (.iaload, 1) := by decide +kernel
theorem dL_law_1213 : decode cL_law 1213 = .ok (.ifCond .eq 7, 3) := by decide +kernel
theorem dL_law_1216 : decode cL_law 1216 = .ok (.iconst 1, 1) := by decide +kernel
theorem dL_law_1217 : decode cL_law 1217 = .ok (.goto 4, 3) := by decide +kernel
theorem dL_law_1220 : decode cL_law 1220 = .ok (.iconst 0, 1) := by decide +kernel
theorem dL_law_1221 : decode cL_law 1221 = .ok (.invokevirtual 170, 3) := by decide +kernel
theorem dL_law_1224 : decode cL_law 1224 = .ok (.dstore 7, 2) := by decide +kernel
theorem dL_law_1226 : decode cL_law 1226 = .ok (.aload_n 2, 1) := by decide +kernel
theorem dL_law_1227 : decode cL_law 1227 = .ok (.invokevirtual 114, 3) := by decide +kernel
theorem dL_law_1230 : decode cL_law 1230 = .ok (.iload 6, 2) := by decide +kernel
theorem dL_law_1232 : decode cL_law 1232 = .ok (.if_icmp .eq 5, 3) := by decide +kernel
theorem dL_law_1235 : decode cL_law 1235 = .ok (.iconst 0, 1) := by decide +kernel
theorem dL_law_1236 : decode cL_law 1236 = .ok (.ireturn, 1) := by decide +kernel
theorem dL_law_1237 : decode cL_law 1237 = .ok (.iload 6, 2) := by decide +kernel
theorem dL_law_1239 : decode cL_law 1239 = .ok (.ifCond .ne 35, 3) := by decide +kernel
theorem dL_law_1242 : decode cL_law 1242 = .ok (.aload 4, 2) := by decide +kernel
theorem dL_law_1244 : decode cL_law 1244 = .ok (.iconst 0, 1) := by decide +kernel
theorem dL_law_1245 : decode cL_law 1245 = .ok (.daload, 1) := by decide +kernel
theorem dL_law_1246 : decode cL_law 1246 = .ok (.dload 7, 2) := by decide +kernel
theorem dL_law_1248 : decode cL_law 1248 = .ok (.dcmp .l, 1) := by decide +kernel
theorem dL_law_1249 : decode cL_law 1249 = .ok (.ifCond .eq 25, 3) := by decide +kernel
theorem dL_law_1252 : decode cL_law 1252 = .ok (.aload 4, 2) := by decide +kernel
theorem dL_law_1254 : decode cL_law 1254 = .ok (.iconst 0, 1) := by decide +kernel
theorem dL_law_1255 : decode cL_law 1255 = .ok (.daload, 1) := by decide +kernel
theorem dL_law_1256 : decode cL_law 1256 = .ok (.aload 4, 2) := by decide +kernel
theorem dL_law_1258 : decode cL_law 1258 = .ok (.iconst 0, 1) := by decide +kernel
theorem dL_law_1259 : decode cL_law 1259 = .ok (.daload, 1) := by decide +kernel
theorem dL_law_1260 : decode cL_law 1260 = .ok (.dcmp .l, 1) := by decide +kernel
theorem dL_law_1261 : decode cL_law 1261 = .ok (.ifCond .eq 11, 3) := by decide +kernel
theorem dL_law_1264 : decode cL_law 1264 = .ok (.dload 7, 2) := by decide +kernel
theorem dL_law_1266 : decode cL_law 1266 = .ok (.dload 7, 2) := by decide +kernel
theorem dL_law_1268 : decode cL_law 1268 = .ok (.dcmp .l, 1) := by decide +kernel
theorem dL_law_1269 : decode cL_law 1269 = .ok (.ifCond .ne 5, 3) := by decide +kernel
theorem dL_law_1272 : decode cL_law 1272 = .ok (.iconst 0, 1) := by decide +kernel
theorem dL_law_1273 : decode cL_law 1273 = .ok (.ireturn, 1) := by decide +kernel
theorem dL_law_1274 : decode cL_law 1274 = .ok (.goto 728, 3) := by decide +kernel
theorem dL_law_1277 : decode cL_law 1277 = .ok (.aload_n 1, 1) := by decide +kernel
theorem dL_law_1278 : decode cL_law 1278 = .ok (.aload_n 0, 1) := by decide +kernel
theorem dL_law_1279 : decode cL_law 1279 = .ok (.iload 5, 2) := by decide +kernel
theorem dL_law_1281 : decode cL_law 1281 = .ok (.iconst 1, 1) := by decide +kernel
theorem dL_law_1282 : decode cL_law 1282 = .ok (.iadd, 1) := by decide +kernel
theorem dL_law_1283 : decode cL_law 1283 = .ok (.iaload, 1) := by decide +kernel
theorem dL_law_1284 : decode cL_law 1284 = .ok (.aload_n 0, 1) := by decide +kernel
theorem dL_law_1285 : decode cL_law 1285 = .ok (.iload 5, 2) := by decide +kernel
theorem dL_law_1287 : decode cL_law 1287 = .ok (.iconst 2, 1) := by decide +kernel
theorem dL_law_1288 : decode cL_law 1288 = .ok (.iadd, 1) := by decide +kernel
theorem dL_law_1289 : decode cL_law 1289 = .ok (.iaload, 1) := by decide +kernel
theorem dL_law_1290 : decode cL_law 1290 = .ok (.ifCond .eq 7, 3) := by decide +kernel
theorem dL_law_1293 : decode cL_law 1293 = .ok (.iconst 1, 1) := by decide +kernel
theorem dL_law_1294 : decode cL_law 1294 = .ok (.goto 4, 3) := by decide +kernel
theorem dL_law_1297 : decode cL_law 1297 = .ok (.iconst 0, 1) := by decide +kernel
theorem dL_law_1298 : decode cL_law 1298 = .ok (.aload_n 3, 1) := by decide +kernel
theorem dL_law_1299 : decode cL_law 1299 = .ok (.invokestatic 171, 3) := by decide +kernel
theorem dL_law_1302 : decode cL_law 1302 = .ok (.istore 6, 2) := by decide +kernel
theorem dL_law_1304 : decode cL_law 1304 = .ok (.aload_n 2, 1) := by decide +kernel
theorem dL_law_1305 : decode cL_law 1305 = .ok (.aload_n 0, 1) := by decide +kernel
theorem dL_law_1306 : decode cL_law 1306 = .ok (.iload 5, 2) := by decide +kernel
theorem dL_law_1308 : decode cL_law 1308 = .ok (.iconst 1, 1) := by decide +kernel
theorem dL_law_1309 : decode cL_law 1309 = .ok (.iadd, 1) := by decide +kernel
theorem dL_law_1310 : decode cL_law 1310 = .ok (.iaload, 1) := by decide +kernel
theorem dL_law_1311 : decode cL_law 1311 = .ok (.aload_n 0, 1) := by decide +kernel
theorem dL_law_1312 : decode cL_law 1312 = .ok (.iload 5, 2) := by decide +kernel
theorem dL_law_1314 : decode cL_law 1314 = .ok (.iconst 2, 1) := by decide +kernel
theorem dL_law_1315 : decode cL_law 1315 = .ok (.iadd, 1) := by decide +kernel
theorem dL_law_1316 : decode cL_law 1316 = .ok (.iaload, 1) := by decide +kernel
theorem dL_law_1317 : decode cL_law 1317 = .ok (.ifCond .eq 7, 3) := by decide +kernel
theorem dL_law_1320 : decode cL_law 1320 = .ok (.iconst 1, 1) := by decide +kernel
theorem dL_law_1321 : decode cL_law 1321 = .ok (.goto 4, 3) := by decide +kernel
theorem dL_law_1324 : decode cL_law 1324 = .ok (.iconst 0, 1) := by decide +kernel
theorem dL_law_1325 : decode cL_law 1325 = .ok (.invokevirtual 174, 3) := by decide +kernel
theorem dL_law_1328 : decode cL_law 1328 = .ok (.lstore 7, 2) := by decide +kernel
theorem dL_law_1330 : decode cL_law 1330 = .ok (.aload_n 2, 1) := by decide +kernel
theorem dL_law_1331 : decode cL_law 1331 = .ok (.invokevirtual 114, 3) := by decide +kernel
theorem dL_law_1334 : decode cL_law 1334 = .ok (.iload 6, 2) := by decide +kernel
theorem dL_law_1336 : decode cL_law 1336 = .ok (.if_icmp .eq 5, 3) := by decide +kernel
theorem dL_law_1339 : decode cL_law 1339 = .ok (.iconst 0, 1) := by decide +kernel
theorem dL_law_1340 : decode cL_law 1340 = .ok (.ireturn, 1) := by decide +kernel
theorem dL_law_1341 : decode cL_law 1341 = .ok (.iload 6, 2) := by decide +kernel
theorem dL_law_1343 : decode cL_law 1343 = .ok (.ifCond .ne 14, 3) := by decide +kernel
theorem dL_law_1346 : decode cL_law 1346 = .ok (.aload_n 3, 1) := by decide +kernel
theorem dL_law_1347 : decode cL_law 1347 = .ok (.iconst 0, 1) := by decide +kernel
theorem dL_law_1348 : decode cL_law 1348 = .ok (.laload, 1) := by decide +kernel
theorem dL_law_1349 : decode cL_law 1349 = .ok (.lload 7, 2) := by decide +kernel
theorem dL_law_1351 : decode cL_law 1351 = .ok (.lcmp, 1) := by decide +kernel
theorem dL_law_1352 : decode cL_law 1352 = .ok (.ifCond .eq 5, 3) := by decide +kernel
theorem dL_law_1355 : decode cL_law 1355 = .ok (.iconst 0, 1) := by decide +kernel
theorem dL_law_1356 : decode cL_law 1356 = .ok (.ireturn, 1) := by decide +kernel
theorem dL_law_1357 : decode cL_law 1357 = .ok (.goto 645, 3) := by decide +kernel
theorem dL_law_1360 : decode cL_law 1360 = .ok (.aload_n 1, 1) := by decide +kernel
theorem dL_law_1361 : decode cL_law 1361 = .ok (.aload_n 0, 1) := by decide +kernel
theorem dL_law_1362 : decode cL_law 1362 = .ok (.iload 5, 2) := by decide +kernel
theorem dL_law_1364 : decode cL_law 1364 = .ok (.iconst 1, 1) := by decide +kernel
theorem dL_law_1365 : decode cL_law 1365 = .ok (.iadd, 1) := by decide +kernel
theorem dL_law_1366 : decode cL_law 1366 = .ok (.iaload, 1) := by decide +kernel
end
section
theorem dL_law_1367 : decode cL_law 1367 = .ok (.aload_n 0, 1) := by decide +kernel
theorem dL_law_1368 : decode cL_law 1368 = .ok (.iload 5, 2) := by decide +kernel
theorem dL_law_1370 : decode cL_law 1370 = .ok (.iconst 2, 1) := by decide +kernel
theorem dL_law_1371 : decode cL_law 1371 = .ok (.iadd, 1) := by decide +kernel
theorem dL_law_1372 : decode cL_law 1372 = .ok (.iaload, 1) := by decide +kernel
theorem dL_law_1373 : decode cL_law 1373 = .ok (.ifCond .eq 7, 3) := by decide +kernel
theorem dL_law_1376 : decode cL_law 1376 = .ok (.iconst 1, 1) := by decide +kernel
theorem dL_law_1377 : decode cL_law 1377 = .ok (.goto 4, 3) := by decide +kernel
theorem dL_law_1380 : decode cL_law 1380 = .ok (.iconst 0, 1) := by decide +kernel
theorem dL_law_1381 : decode cL_law 1381 = .ok (.aload_n 3, 1) := by decide +kernel
theorem dL_law_1382 : decode cL_law 1382 = .ok (.invokestatic 175, 3) := by decide +kernel
theorem dL_law_1385 : decode cL_law 1385 = .ok (.istore 6, 2) := by decide +kernel
theorem dL_law_1387 : decode cL_law 1387 = .ok (.aload_n 2, 1) := by decide +kernel
theorem dL_law_1388 : decode cL_law 1388 = .ok (.aload_n 0, 1) := by decide +kernel
theorem dL_law_1389 : decode cL_law 1389 = .ok (.iload 5, 2) := by decide +kernel
theorem dL_law_1391 : decode cL_law 1391 = .ok (.iconst 1, 1) := by decide +kernel
theorem dL_law_1392 : decode cL_law 1392 = .ok (.iadd, 1) := by decide +kernel
theorem dL_law_1393 : decode cL_law 1393 = .ok (.iaload, 1) := by decide +kernel
theorem dL_law_1394 : decode cL_law 1394 = .ok (.aload_n 0, 1) := by decide +kernel
theorem dL_law_1395 : decode cL_law 1395 = .ok (.iload 5, 2) := by decide +kernel
theorem dL_law_1397 : decode cL_law 1397 = .ok (.iconst 2, 1) := by decide +kernel
theorem dL_law_1398 : decode cL_law 1398 = .ok (.iadd, 1) := by decide +kernel
theorem dL_law_1399 : decode cL_law 1399 = .ok (.iaload, 1) := by decide +kernel
theorem dL_law_1400 : decode cL_law 1400 = .ok (.ifCond .eq 7, 3) := by decide +kernel
theorem dL_law_1403 : decode cL_law 1403 = .ok (.iconst 1, 1) := by decide +kernel
theorem dL_law_1404 : decode cL_law 1404 = .ok (.goto 4, 3) := by decide +kernel
theorem dL_law_1407 : decode cL_law 1407 = .ok (.iconst 0, 1) := by decide +kernel
theorem dL_law_1408 : decode cL_law 1408 = .ok (.invokevirtual 177, 3) := by decide +kernel
theorem dL_law_1411 : decode cL_law 1411 = .ok (.istore 7, 2) := by decide +kernel
theorem dL_law_1413 : decode cL_law 1413 = .ok (.aload_n 2, 1) := by decide +kernel
theorem dL_law_1414 : decode cL_law 1414 = .ok (.invokevirtual 114, 3) := by decide +kernel
theorem dL_law_1417 : decode cL_law 1417 = .ok (.iload 6, 2) := by decide +kernel
theorem dL_law_1419 : decode cL_law 1419 = .ok (.if_icmp .eq 5, 3) := by decide +kernel
theorem dL_law_1422 : decode cL_law 1422 = .ok (.iconst 0, 1) := by decide +kernel
theorem dL_law_1423 : decode cL_law 1423 = .ok (.ireturn, 1) := by decide +kernel
theorem dL_law_1424 : decode cL_law 1424 = .ok (.iload 6, 2) := by decide +kernel
theorem dL_law_1426 : decode cL_law 1426 = .ok (.ifCond .ne 15, 3) := by decide +kernel
theorem dL_law_1429 : decode cL_law 1429 = .ok (.aload_n 3, 1) := by decide +kernel
theorem dL_law_1430 : decode cL_law 1430 = .ok (.iconst 0, 1) := by decide +kernel
theorem dL_law_1431 : decode cL_law 1431 = .ok (.laload, 1) := by decide +kernel
theorem dL_law_1432 : decode cL_law 1432 = .ok (.iload 7, 2) := by decide +kernel
theorem dL_law_1434 : decode cL_law 1434 = .ok (.i2l, 1) := by decide +kernel
theorem dL_law_1435 : decode cL_law 1435 = .ok (.lcmp, 1) := by decide +kernel
theorem dL_law_1436 : decode cL_law 1436 = .ok (.ifCond .eq 5, 3) := by decide +kernel
theorem dL_law_1439 : decode cL_law 1439 = .ok (.iconst 0, 1) := by decide +kernel
theorem dL_law_1440 : decode cL_law 1440 = .ok (.ireturn, 1) := by decide +kernel
theorem dL_law_1441 : decode cL_law 1441 = .ok (.goto 561, 3) := by decide +kernel
theorem dL_law_1444 : decode cL_law 1444 = .ok (.aload_n 1, 1) := by decide +kernel
theorem dL_law_1445 : decode cL_law 1445 = .ok (.aload_n 0, 1) := by decide +kernel
theorem dL_law_1446 : decode cL_law 1446 = .ok (.iload 5, 2) := by decide +kernel
theorem dL_law_1448 : decode cL_law 1448 = .ok (.iconst 1, 1) := by decide +kernel
theorem dL_law_1449 : decode cL_law 1449 = .ok (.iadd, 1) := by decide +kernel
theorem dL_law_1450 : decode cL_law 1450 = .ok (.iaload, 1) := by decide +kernel
theorem dL_law_1451 : decode cL_law 1451 = .ok (.aload_n 3, 1) := by decide +kernel
theorem dL_law_1452 : decode cL_law 1452 = .ok (.invokestatic 178, 3) := by decide +kernel
theorem dL_law_1455 : decode cL_law 1455 = .ok (.istore 6, 2) := by decide +kernel
theorem dL_law_1457 : decode cL_law 1457 = .ok (.aload_n 2, 1) := by decide +kernel
theorem dL_law_1458 : decode cL_law 1458 = .ok (.aload_n 0, 1) := by decide +kernel
theorem dL_law_1459 : decode cL_law 1459 = .ok (.iload 5, 2) := by decide +kernel
theorem dL_law_1461 : decode cL_law 1461 = .ok (.iconst 1, 1) := by decide +kernel
theorem dL_law_1462 : decode cL_law 1462 = .ok (.iadd, 1) := by decide +kernel
theorem dL_law_1463 : decode cL_law 1463 = .ok (.iaload, 1) := by decide +kernel
theorem dL_law_1464 : decode cL_law 1464 = .ok (.invokevirtual 180, 3) := by decide +kernel
theorem dL_law_1467 : decode cL_law 1467 = .ok (.istore 7, 2) := by decide +kernel
theorem dL_law_1469 : decode cL_law 1469 = .ok (.aload_n 2, 1) := by decide +kernel
theorem dL_law_1470 : decode cL_law 1470 = .ok (.invokevirtual 114, 3) := by decide +kernel
theorem dL_law_1473 : decode cL_law 1473 = .ok (.iload 6, 2) := by decide +kernel
theorem dL_law_1475 : decode cL_law 1475 = .ok (.if_icmp .eq 5, 3) := by decide +kernel
theorem dL_law_1478 : decode cL_law 1478 = .ok (.iconst 0, 1) := by decide +kernel
theorem dL_law_1479 : decode cL_law 1479 = .ok (.ireturn, 1) := by decide +kernel
theorem dL_law_1480 : decode cL_law 1480 = .ok (.iload 6, 2) := by decide +kernel
theorem dL_law_1482 : decode cL_law 1482 = .ok (.ifCond .ne 15, 3) := by decide +kernel
theorem dL_law_1485 : decode cL_law 1485 = .ok (.aload_n 3, 1) := by decide +kernel
theorem dL_law_1486 : decode cL_law 1486 = .ok (.iconst 0, 1) := by decide +kernel
theorem dL_law_1487 : decode cL_law 1487 = .ok (.laload, 1) := by decide +kernel
theorem dL_law_1488 : decode cL_law 1488 = .ok (.iload 7, 2) := by decide +kernel
theorem dL_law_1490 : decode cL_law 1490 = .ok (.i2l, 1) := by decide +kernel
theorem dL_law_1491 : decode cL_law 1491 = .ok (.lcmp, 1) := by decide +kernel
theorem dL_law_1492 : decode cL_law 1492 = .ok (.ifCond .eq 5, 3) := by decide +kernel
theorem dL_law_1495 : decode cL_law 1495 = .ok (.iconst 0, 1) := by decide +kernel
theorem dL_law_1496 : decode cL_law 1496 = .ok (.ireturn, 1) := by decide +kernel
theorem dL_law_1497 : decode cL_law 1497 = .ok (.goto 505, 3) := by decide +kernel
theorem dL_law_1500 : decode cL_law 1500 = .ok (.aload_n 1, 1) := by decide +kernel
theorem dL_law_1501 : decode cL_law 1501 = .ok (.aload_n 0, 1) := by decide +kernel
theorem dL_law_1502 : decode cL_law 1502 = .ok (.iload 5, 2) := by decide +kernel
theorem dL_law_1504 : decode cL_law 1504 = .ok (.iconst 1, 1) := by decide +kernel
theorem dL_law_1505 : decode cL_law 1505 = .ok (.iadd, 1) := by decide +kernel
theorem dL_law_1506 : decode cL_law 1506 = .ok (.iaload, 1) := by decide +kernel
theorem dL_law_1507 : decode cL_law 1507 = .ok (.aload_n 0, 1) := by decide +kernel
theorem dL_law_1508 : decode cL_law 1508 = .ok (.iload 5, 2) := by decide +kernel
theorem dL_law_1510 : decode cL_law 1510 = .ok (.iconst 2, 1) := by decide +kernel
theorem dL_law_1511 : decode cL_law 1511 = .ok (.iadd, 1) := by decide +kernel
theorem dL_law_1512 : decode cL_law 1512 = .ok (.iaload, 1) := by decide +kernel
theorem dL_law_1513 : decode cL_law 1513 = .ok (.ifCond .eq 7, 3) := by decide +kernel
theorem dL_law_1516 : decode cL_law 1516 = .ok (.iconst 1, 1) := by decide +kernel
theorem dL_law_1517 : decode cL_law 1517 = .ok (.goto 4, 3) := by decide +kernel
theorem dL_law_1520 : decode cL_law 1520 = .ok (.iconst 0, 1) := by decide +kernel
theorem dL_law_1521 : decode cL_law 1521 = .ok (.aload_n 3, 1) := by decide +kernel
theorem dL_law_1522 : decode cL_law 1522 = .ok (.invokestatic 181, 3) := by decide +kernel
theorem dL_law_1525 : decode cL_law 1525 = .ok (.istore 6, 2) := by decide +kernel
theorem dL_law_1527 : decode cL_law 1527 = .ok (.aload_n 2, 1) := by decide +kernel
theorem dL_law_1528 : decode cL_law 1528 = .ok (.aload_n 0, 1) := by decide +kernel
theorem dL_law_1529 : decode cL_law 1529 = .ok (.iload 5, 2) := by decide +kernel
theorem dL_law_1531 : decode cL_law 1531 = .ok (.iconst 1, 1) := by decide +kernel
theorem dL_law_1532 : decode cL_law 1532 = .ok (.iadd, 1) := by decide +kernel
theorem dL_law_1533 : decode cL_law 1533 = .ok (.iaload, 1) := by decide +kernel
theorem dL_law_1534 : decode cL_law 1534 = .ok (.aload_n 0, 1) := by decide +kernel
theorem dL_law_1535 : decode cL_law 1535 = .ok (.iload 5, 2) := by decide +kernel
theorem dL_law_1537 : decode cL_law 1537 = .ok (.iconst 2, 1) := by decide +kernel
theorem dL_law_1538 : decode cL_law 1538 = .ok (.iadd, 1) := by decide +kernel
theorem dL_law_1539 : decode cL_law 1539 = .ok (.iaload, 1) := by decide +kernel
theorem dL_law_1540 : decode cL_law 1540 = .ok (.ifCond .eq 7, 3) := by decide +kernel
theorem dL_law_1543 : decode cL_law 1543 = .ok (.iconst 1, 1) := by decide +kernel
theorem dL_law_1544 : decode cL_law 1544 = .ok (.goto 4, 3) := by decide +kernel
theorem dL_law_1547 : decode cL_law 1547 = .ok (.iconst 0, 1) := by decide +kernel
theorem dL_law_1548 : decode cL_law 1548 = .ok (.invokevirtual 183, 3) := by decide +kernel
theorem dL_law_1551 : decode cL_law 1551 = .ok (.istore 7, 2) := by decide +kernel
theorem dL_law_1553 : decode cL_law 1553 = .ok (.aload_n 2, 1) := by decide +kernel
theorem dL_law_1554 : decode cL_law 1554 = .ok (.invokevirtual 114, 3) := by decide +kernel
theorem dL_law_1557 : decode cL_law 1557 = .ok (.iload 6, 2) := by decide +kernel
theorem dL_law_1559 : decode cL_law 1559 = .ok (.if_icmp .eq 5, 3) := by decide +kernel
theorem dL_law_1562 : decode cL_law 1562 = .ok (.iconst 0, 1) := by decide +kernel
theorem dL_law_1563 : decode cL_law 1563 = .ok (.ireturn, 1) := by decide +kernel
theorem dL_law_1564 : decode cL_law 1564 = .ok (.iload 6, 2) := by decide +kernel
theorem dL_law_1566 : decode cL_law 1566 = .ok (.ifCond .ne 22, 3) := by decide +kernel
theorem dL_law_1569 : decode cL_law 1569 = .ok (.aload_n 3, 1) := by decide +kernel
theorem dL_law_1570 : decode cL_law 1570 = .ok (.iconst 0, 1) := by decide +kernel
theorem dL_law_1571 : decode cL_law 1571 = .ok (.laload, 1) := by decide +kernel
theorem dL_law_1572 : decode cL_law 1572 = .ok (.iload 7, 2) := by decide +kernel
theorem dL_law_1574 : decode cL_law 1574 = .ok (.ifCond .eq 7, 3) := by decide +kernel
theorem dL_law_1577 : decode cL_law 1577 = .ok (.lconst 1, 1) := by decide +kernel
theorem dL_law_1578 : decode cL_law 1578 = .ok (.goto 4, 3) := by decide +kernel
theorem dL_law_1581 : decode cL_law 1581 = .ok (.lconst 0, 1) := by decide +kernel
theorem dL_law_1582 : decode cL_law 1582 = .ok (.lcmp, 1) := by decide +kernel
theorem dL_law_1583 : decode cL_law 1583 = .ok (.ifCond .eq 5, 3) := by decide +kernel
theorem dL_law_1586 : decode cL_law 1586 = .ok (.iconst 0, 1) := by decide +kernel
theorem dL_law_1587 : decode cL_law 1587 = .ok (.ireturn, 1) := by decide +kernel
theorem dL_law_1588 : decode cL_law 1588 = .ok (.goto 414, 3) := by decide +kernel
theorem dL_law_1591 : decode cL_law 1591 = .ok (.aload_n 1, 1) := by decide +kernel
theorem dL_law_1592 : decode cL_law 1592 = .ok (.aload_n 0, 1) := by decide +kernel
theorem dL_law_1593 : decode cL_law 1593 = .ok (.iload 5, 2) := by decide +kernel
theorem dL_law_1595 : decode cL_law 1595 = .ok (.iconst 1, 1) := by decide +kernel
theorem dL_law_1596 : decode cL_law 1596 = .ok (.iadd, 1) := by decide +kernel
theorem dL_law_1597 : decode cL_law 1597 = .ok (.iaload, 1) := by decide +kernel
theorem dL_law_1598 : decode cL_law 1598 = .ok (.aload_n 3, 1) := by decide +kernel
theorem dL_law_1599 : decode cL_law 1599 = .ok (.invokestatic 184, 3) := by decide +kernel
theorem dL_law_1602 : decode cL_law 1602 = .ok (.istore 6, 2) := by decide +kernel
theorem dL_law_1604 : decode cL_law 1604 = .ok (.aload_n 2, 1) := by decide +kernel
theorem dL_law_1605 : decode cL_law 1605 = .ok (.aload_n 0, 1) := by decide +kernel
theorem dL_law_1606 : decode cL_law 1606 = .ok (.iload 5, 2) := by decide +kernel
theorem dL_law_1608 : decode cL_law 1608 = .ok (.iconst 1, 1) := by decide +kernel
theorem dL_law_1609 : decode cL_law 1609 = .ok (.iadd, 1) := by decide +kernel
theorem dL_law_1610 : decode cL_law 1610 = .ok (.iaload, 1) := by decide +kernel
theorem dL_law_1611 : decode cL_law 1611 = .ok (.invokevirtual 186, 3) := by decide +kernel
theorem dL_law_1614 : decode cL_law 1614 = .ok (.istore 7, 2) := by decide +kernel
theorem dL_law_1616 : decode cL_law 1616 = .ok (.aload_n 2, 1) := by decide +kernel
theorem dL_law_1617 : decode cL_law 1617 = .ok (.invokevirtual 114, 3) := by decide +kernel
theorem dL_law_1620 : decode cL_law 1620 = .ok (.iload 6, 2) := by decide +kernel
theorem dL_law_1622 : decode cL_law 1622 = .ok (.if_icmp .eq 5, 3) := by decide +kernel
theorem dL_law_1625 : decode cL_law 1625 = .ok (.iconst 0, 1) := by decide +kernel
theorem dL_law_1626 : decode cL_law 1626 = .ok (.ireturn, 1) := by decide +kernel
theorem dL_law_1627 : decode cL_law 1627 = .ok (.iload 6, 2) := by decide +kernel
theorem dL_law_1629 : decode cL_law 1629 = .ok (.ifCond .ne 22, 3) := by decide +kernel
theorem dL_law_1632 : decode cL_law 1632 = .ok (.aload_n 3, 1) := by decide +kernel
theorem dL_law_1633 : decode cL_law 1633 = .ok (.iconst 0, 1) := by decide +kernel
theorem dL_law_1634 : decode cL_law 1634 = .ok (.laload, 1) := by decide +kernel
theorem dL_law_1635 : decode cL_law 1635 = .ok (.iload 7, 2) := by decide +kernel
theorem dL_law_1637 : decode cL_law 1637 = .ok (.ifCond .eq 7, 3) := by decide +kernel
theorem dL_law_1640 : decode cL_law 1640 = .ok (.lconst 1, 1) := by decide +kernel
theorem dL_law_1641 : decode cL_law 1641 = .ok (.goto 4, 3) := by decide +kernel
theorem dL_law_1644 : decode cL_law 1644 = .ok (.lconst 0, 1) := by decide +kernel
theorem dL_law_1645 : decode cL_law 1645 = .ok (.lcmp, 1) := by decide +kernel
theorem dL_law_1646 : decode cL_law 1646 = .ok (.ifCond .eq 5, 3) := by decide +kernel
theorem dL_law_1649 : decode cL_law 1649 = .ok (.iconst 0, 1) := by decide +kernel
theorem dL_law_1650 : decode cL_law 1650 = .ok (.ireturn, 1) := by decide +kernel
theorem dL_law_1651 : decode cL_law 1651 = .ok (.goto 351, 3) := by decide +kernel
theorem dL_law_1654 : decode cL_law 1654 = .ok (.aload_n 1, 1) := by decide +kernel
theorem dL_law_1655 : decode cL_law 1655 = .ok (.aload_n 0, 1) := by decide +kernel
theorem dL_law_1656 : decode cL_law 1656 = .ok (.iload 5, 2) := by decide +kernel
theorem dL_law_1658 : decode cL_law 1658 = .ok (.iconst 1, 1) := by decide +kernel
theorem dL_law_1659 : decode cL_law 1659 = .ok (.iadd, 1) := by decide +kernel
theorem dL_law_1660 : decode cL_law 1660 = .ok (.iaload, 1) := by decide +kernel
theorem dL_law_1661 : decode cL_law 1661 = .ok (.aload_n 0, 1) := by decide +kernel
theorem dL_law_1662 : decode cL_law 1662 = .ok (.iload 5, 2) := by decide +kernel
theorem dL_law_1664 : decode cL_law 1664 = .ok (.iconst 2, 1) := by decide +kernel
theorem dL_law_1665 : decode cL_law 1665 = .ok (.iadd, 1) := by decide +kernel
theorem dL_law_1666 : decode cL_law 1666 = .ok (.iaload, 1) := by decide +kernel
theorem dL_law_1667 : decode cL_law 1667 = .ok (.aload_n 0, 1) := by decide +kernel
theorem dL_law_1668 : decode cL_law 1668 = .ok (.iload 5, 2) := by decide +kernel
theorem dL_law_1670 : decode cL_law 1670 = .ok (.iconst 3, 1) := by decide +kernel
theorem dL_law_1671 : decode cL_law 1671 = .ok (.iadd, 1) := by decide +kernel
theorem dL_law_1672 : decode cL_law 1672 = .ok (.iaload, 1) := by decide +kernel
theorem dL_law_1673 : decode cL_law 1673 = .ok (.ifCond .eq 7, 3) := by decide +kernel
theorem dL_law_1676 : decode cL_law 1676 = .ok (.iconst 1, 1) := by decide +kernel
theorem dL_law_1677 : decode cL_law 1677 = .ok (.goto 4, 3) := by decide +kernel
theorem dL_law_1680 : decode cL_law 1680 = .ok (.iconst 0, 1) := by decide +kernel
theorem dL_law_1681 : decode cL_law 1681 = .ok (.aload_n 3, 1) := by decide +kernel
theorem dL_law_1682 : decode cL_law 1682 = .ok (.invokestatic 187, 3) := by decide +kernel
theorem dL_law_1685 : decode cL_law 1685 = .ok (.istore 6, 2) := by decide +kernel
theorem dL_law_1687 : decode cL_law 1687 = .ok (.aload_n 2, 1) := by decide +kernel
theorem dL_law_1688 : decode cL_law 1688 = .ok (.aload_n 0, 1) := by decide +kernel
theorem dL_law_1689 : decode cL_law 1689 = .ok (.iload 5, 2) := by decide +kernel
theorem dL_law_1691 : decode cL_law 1691 = .ok (.iconst 1, 1) := by decide +kernel
theorem dL_law_1692 : decode cL_law 1692 = .ok (.iadd, 1) := by decide +kernel
theorem dL_law_1693 : decode cL_law 1693 = .ok (.iaload, 1) := by decide +kernel
theorem dL_law_1694 : decode cL_law 1694 = .ok (.aload_n 0, 1) := by decide +kernel
theorem dL_law_1695 : decode cL_law 1695 = .ok (.iload 5, 2) := by decide +kernel
theorem dL_law_1697 : decode cL_law 1697 = .ok (.iconst 2, 1) := by decide +kernel
theorem dL_law_1698 : decode cL_law 1698 = .ok (.iadd, 1) := by decide +kernel
theorem dL_law_1699 : decode cL_law 1699 = .ok (.iaload, 1) := by decide +kernel
theorem dL_law_1700 : decode cL_law 1700 = .ok (.aload_n 0, 1) := by decide +kernel
theorem dL_law_1701 : decode cL_law 1701 = .ok (.iload 5, 2) := by decide +kernel
theorem dL_law_1703 : decode cL_law 1703 = .ok (.iconst 3, 1) := by decide +kernel
theorem dL_law_1704 : decode cL_law 1704 = .ok (.iadd, 1) := by decide +kernel
theorem dL_law_1705 : decode cL_law 1705 = .ok (.iaload, 1) := by decide +kernel
theorem dL_law_1706 : decode cL_law 1706 = .ok (.ifCond .eq 7, 3) := by decide +kernel
theorem dL_law_1709 : decode cL_law 1709 = .ok (.iconst 1, 1) := by decide +kernel
theorem dL_law_1710 : decode cL_law 1710 = .ok (.goto 4, 3) := by decide +kernel
theorem dL_law_1713 : decode cL_law 1713 = .ok (.iconst 0, 1) := by decide +kernel
theorem dL_law_1714 : decode cL_law 1714 = .ok (.invokevirtual 190, 3) := by decide +kernel
theorem dL_law_1717 : decode cL_law 1717 = .ok (.istore 7, 2) := by decide +kernel
theorem dL_law_1719 : decode cL_law 1719 = .ok (.aload_n 2, 1) := by decide +kernel
theorem dL_law_1720 : decode cL_law 1720 = .ok (.invokevirtual 114, 3) := by decide +kernel
theorem dL_law_1723 : decode cL_law 1723 = .ok (.iload 6, 2) := by decide +kernel
theorem dL_law_1725 : decode cL_law 1725 = .ok (.if_icmp .eq 5, 3) := by decide +kernel
theorem dL_law_1728 : decode cL_law 1728 = .ok (.iconst 0, 1) := by decide +kernel
theorem dL_law_1729 : decode cL_law 1729 = .ok (.ireturn, 1) := by decide +kernel
theorem dL_law_1730 : decode cL_law 1730 = .ok (.iload 6, 2) := by decide +kernel
theorem dL_law_1732 : decode cL_law 1732 = .ok (.ifCond .ne 15, 3) := by decide +kernel
theorem dL_law_1735 : decode cL_law 1735 = .ok (.aload_n 3, 1) := by decide +kernel
theorem dL_law_1736 : decode cL_law 1736 = .ok (.iconst 0, 1) := by decide +kernel
theorem dL_law_1737 : decode cL_law 1737 = .ok (.laload, 1) := by decide +kernel
theorem dL_law_1738 : decode cL_law 1738 = .ok (.iload 7, 2) := by decide +kernel
theorem dL_law_1740 : decode cL_law 1740 = .ok (.i2l, 1) := by decide +kernel
theorem dL_law_1741 : decode cL_law 1741 = .ok (.lcmp, 1) := by decide +kernel
theorem dL_law_1742 : decode cL_law 1742 = .ok (.ifCond .eq 5, 3) := by decide +kernel
theorem dL_law_1745 : decode cL_law 1745 = .ok (.iconst 0, 1) := by decide +kernel
theorem dL_law_1746 : decode cL_law 1746 = .ok (.ireturn, 1) := by decide +kernel
theorem dL_law_1747 : decode cL_law 1747 = .ok (.goto 255, 3) := by decide +kernel
theorem dL_law_1750 : decode cL_law 1750 = .ok (.aload_n 1, 1) := by decide +kernel
theorem dL_law_1751 : decode cL_law 1751 = .ok (.aload_n 0, 1) := by decide +kernel
theorem dL_law_1752 : decode cL_law 1752 = .ok (.iload 5, 2) := by decide +kernel
theorem dL_law_1754 : decode cL_law 1754 = .ok (.iconst 1, 1) := by decide +kernel
theorem dL_law_1755 : decode cL_law 1755 = .ok (.iadd, 1) := by decide +kernel
theorem dL_law_1756 : decode cL_law 1756 = .ok (.iaload, 1) := by decide +kernel
theorem dL_law_1757 : decode cL_law 1757 = .ok (.aload_n 3, 1) := by decide +kernel
theorem dL_law_1758 : decode cL_law 1758 = .ok (.invokestatic 191, 3) := by decide +kernel
theorem dL_law_1761 : decode cL_law 1761 = .ok (.istore 6, 2) := by decide +kernel
theorem dL_law_1763 : decode cL_law 1763 = .ok (.aload_n 2, 1) := by decide +kernel
theorem dL_law_1764 : decode cL_law 1764 = .ok (.aload_n 0, 1) := by decide +kernel
theorem dL_law_1765 : decode cL_law 1765 = .ok (.iload 5, 2) := by decide +kernel
theorem dL_law_1767 : decode cL_law 1767 = .ok (.iconst 1, 1) := by decide +kernel
theorem dL_law_1768 : decode cL_law 1768 = .ok (.iadd, 1) := by decide +kernel
theorem dL_law_1769 : decode cL_law 1769 = .ok (.iaload, 1) := by decide +kernel
theorem dL_law_1770 : decode cL_law 1770 = .ok (.invokevirtual 193, 3) := by decide +kernel
theorem dL_law_1773 : decode cL_law 1773 = .ok (.istore 7, 2) := by decide +kernel
theorem dL_law_1775 : decode cL_law 1775 = .ok (.aload_n 2, 1) := by decide +kernel
theorem dL_law_1776 : decode cL_law 1776 = .ok (.invokevirtual 114, 3) := by decide +kernel
theorem dL_law_1779 : decode cL_law 1779 = .ok (.iload 6, 2) := by decide +kernel
theorem dL_law_1781 : decode cL_law 1781 = .ok (.if_icmp .eq 5, 3) := by decide +kernel
theorem dL_law_1784 : decode cL_law 1784 = .ok (.iconst 0, 1) := by decide +kernel
theorem dL_law_1785 : decode cL_law 1785 = .ok (.ireturn, 1) := by decide +kernel
theorem dL_law_1786 : decode cL_law 1786 = .ok (.iload 6, 2) := by decide +kernel
theorem dL_law_1788 : decode cL_law 1788 = .ok (.ifCond .ne 15, 3) := by decide +kernel
theorem dL_law_1791 : decode cL_law 1791 = .ok (.aload_n 3, 1) := by decide +kernel
theorem dL_law_1792 : decode cL_law 1792 = .ok (.iconst 0, 1) := by decide +kernel
theorem dL_law_1793 : decode cL_law 1793 = .ok (.laload, 1) := by decide +kernel
theorem dL_law_1794 : decode cL_law 1794 = .ok (.iload 7, 2) := by decide +kernel
theorem dL_law_1796 : decode cL_law 1796 = .ok (.i2l, 1) := by decide +kernel
theorem dL_law_1797 : decode cL_law 1797 = .ok (.lcmp, 1) := by decide +kernel
theorem dL_law_1798 : decode cL_law 1798 = .ok (.ifCond .eq 5, 3) := by decide +kernel
theorem dL_law_1801 : decode cL_law 1801 = .ok (.iconst 0, 1) := by decide +kernel
theorem dL_law_1802 : decode cL_law 1802 = .ok (.ireturn, 1) := by decide +kernel
theorem dL_law_1803 : decode cL_law 1803 = .ok (.goto 199, 3) := by decide +kernel
theorem dL_law_1806 : decode cL_law 1806 = .ok (.aload_n 1, 1) := by decide +kernel
theorem dL_law_1807 : decode cL_law 1807 = .ok (.aload_n 3, 1) := by decide +kernel
theorem dL_law_1808 : decode cL_law 1808 = .ok (.invokestatic 194, 3) := by decide +kernel
theorem dL_law_1811 : decode cL_law 1811 = .ok (.istore 6, 2) := by decide +kernel
theorem dL_law_1813 : decode cL_law 1813 = .ok (.aload_n 2, 1) := by decide +kernel
theorem dL_law_1814 : decode cL_law 1814 = .ok (.invokevirtual 197, 3) := by decide +kernel
theorem dL_law_1817 : decode cL_law 1817 = .ok (.istore 7, 2) := by decide +kernel
theorem dL_law_1819 : decode cL_law 1819 = .ok (.aload_n 2, 1) := by decide +kernel
theorem dL_law_1820 : decode cL_law 1820 = .ok (.invokevirtual 114, 3) := by decide +kernel
theorem dL_law_1823 : decode cL_law 1823 = .ok (.iload 6, 2) := by decide +kernel
theorem dL_law_1825 : decode cL_law 1825 = .ok (.if_icmp .eq 5, 3) := by decide +kernel
theorem dL_law_1828 : decode cL_law 1828 = .ok (.iconst 0, 1) := by decide +kernel
theorem dL_law_1829 : decode cL_law 1829 = .ok (.ireturn, 1) := by decide +kernel
theorem dL_law_1830 : decode cL_law 1830 = .ok (.iload 6, 2) := by decide +kernel
theorem dL_law_1832 : decode cL_law 1832 = .ok (.ifCond .ne 15, 3) := by decide +kernel
theorem dL_law_1835 : decode cL_law 1835 = .ok (.aload_n 3, 1) := by decide +kernel
theorem dL_law_1836 : decode cL_law 1836 = .ok (.iconst 0, 1) := by decide +kernel
theorem dL_law_1837 : decode cL_law 1837 = .ok (.laload, 1) := by decide +kernel
theorem dL_law_1838 : decode cL_law 1838 = .ok (.iload 7, 2) := by decide +kernel
theorem dL_law_1840 : decode cL_law 1840 = .ok (.i2l, 1) := by decide +kernel
theorem dL_law_1841 : decode cL_law 1841 = .ok (.lcmp, 1) := by decide +kernel
theorem dL_law_1842 : decode cL_law 1842 = .ok (.ifCond .eq 5, 3) := by decide +kernel
theorem dL_law_1845 : decode cL_law 1845 = .ok (.iconst 0, 1) := by decide +kernel
theorem dL_law_1846 : decode cL_law 1846 = .ok (.ireturn, 1) := by decide +kernel
theorem dL_law_1847 : decode cL_law 1847 = .ok (.goto 155, 3) := by decide +kernel
theorem dL_law_1850 : decode cL_law 1850 = .ok (.aload_n 1, 1) := by decide +kernel
theorem dL_law_1851 : decode cL_law 1851 = .ok (.aload_n 0, 1) := by decide +kernel
theorem dL_law_1852 : decode cL_law 1852 = .ok (.iload 5, 2) := by decide +kernel
theorem dL_law_1854 : decode cL_law 1854 = .ok (.iconst 1, 1) := by decide +kernel
theorem dL_law_1855 : decode cL_law 1855 = .ok (.iadd, 1) := by decide +kernel
theorem dL_law_1856 : decode cL_law 1856 = .ok (.iaload, 1) := by decide +kernel
theorem dL_law_1857 : decode cL_law 1857 = .ok (.aload_n 3, 1) := by decide +kernel
theorem dL_law_1858 : decode cL_law 1858 = .ok (.invokestatic 198, 3) := by decide +kernel
theorem dL_law_1861 : decode cL_law 1861 = .ok (.istore 6, 2) := by decide +kernel
theorem dL_law_1863 : decode cL_law 1863 = .ok (.aload_n 2, 1) := by decide +kernel
theorem dL_law_1864 : decode cL_law 1864 = .ok (.aload_n 0, 1) := by decide +kernel
theorem dL_law_1865 : decode cL_law 1865 = .ok (.iload 5, 2) := by decide +kernel
theorem dL_law_1867 : decode cL_law 1867 = .ok (.iconst 1, 1) := by decide +kernel
theorem dL_law_1868 : decode cL_law 1868 = .ok (.iadd, 1) := by decide +kernel
theorem dL_law_1869 : decode cL_law 1869 = .ok (.iaload, 1) := by decide +kernel
theorem dL_law_1870 : decode cL_law 1870 = .ok (.invokevirtual 200, 3) := by decide +kernel
theorem dL_law_1873 : decode cL_law 1873 = .ok (.istore 7, 2) := by decide +kernel
theorem dL_law_1875 : decode cL_law 1875 = .ok (.aload_n 2, 1) := by decide +kernel
theorem dL_law_1876 : decode cL_law 1876 = .ok (.invokevirtual 114, 3) := by decide +kernel
theorem dL_law_1879 : decode cL_law 1879 = .ok (.iload 6, 2) := by decide +kernel
theorem dL_law_1881 : decode cL_law 1881 = .ok (.if_icmp .eq 5, 3) := by decide +kernel
theorem dL_law_1884 : decode cL_law 1884 = .ok (.iconst 0, 1) := by decide +kernel
theorem dL_law_1885 : decode cL_law 1885 = .ok (.ireturn, 1) := by decide +kernel
theorem dL_law_1886 : decode cL_law 1886 = .ok (.iload 6, 2) := by decide +kernel
theorem dL_law_1888 : decode cL_law 1888 = .ok (.ifCond .ne 15, 3) := by decide +kernel
theorem dL_law_1891 : decode cL_law 1891 = .ok (.aload_n 3, 1) := by decide +kernel
theorem dL_law_1892 : decode cL_law 1892 = .ok (.iconst 0, 1) := by decide +kernel
theorem dL_law_1893 : decode cL_law 1893 = .ok (.laload, 1) := by decide +kernel
theorem dL_law_1894 : decode cL_law 1894 = .ok (.iload 7, 2) := by decide +kernel
theorem dL_law_1896 : decode cL_law 1896 = .ok (.i2l, 1) := by decide +kernel
theorem dL_law_1897 : decode cL_law 1897 = .ok (.lcmp, 1) := by decide +kernel
theorem dL_law_1898 : decode cL_law 1898 = .ok (.ifCond .eq 5, 3) := by decide +kernel
theorem dL_law_1901 : decode cL_law 1901 = .ok (.iconst 0, 1) := by decide +kernel
theorem dL_law_1902 : decode cL_law 1902 = .ok (.ireturn, 1) := by decide +kernel
theorem dL_law_1903 : decode cL_law 1903 = .ok (.goto 99, 3) := by decide +kernel
theorem dL_law_1906 : decode cL_law 1906 = .ok (.aload_n 1, 1) := by decide +kernel
theorem dL_law_1907 : decode cL_law 1907 = .ok (.invokevirtual 201, 3) := by decide +kernel
theorem dL_law_1910 : decode cL_law 1910 = .ok (.aload_n 2, 1) := by decide +kernel
theorem dL_law_1911 : decode cL_law 1911 = .ok (.invokevirtual 204, 3) := by decide +kernel
theorem dL_law_1914 : decode cL_law 1914 = .ok (.if_icmp .eq 88, 3) := by decide +kernel
theorem dL_law_1917 : decode cL_law 1917 = .ok (.iconst 0, 1) := by decide +kernel
theorem dL_law_1918 : decode cL_law 1918 = .ok (.ireturn, 1) := by decide +kernel
theorem dL_law_1919 : decode cL_law 1919 = .ok (.aload_n 1, 1) := by decide +kernel
theorem dL_law_1920 : decode cL_law 1920 = .ok (.invokevirtual 205, 3) := by decide +kernel
theorem dL_law_1923 : decode cL_law 1923 = .ok (.aload_n 2, 1) := by decide +kernel
theorem dL_law_1924 : decode cL_law 1924 = .ok (.invokevirtual 208, 3) := by decide +kernel
theorem dL_law_1927 : decode cL_law 1927 = .ok (.if_icmp .eq 75, 3) := by decide +kernel
theorem dL_law_1930 : decode cL_law 1930 = .ok (.iconst 0, 1) := by decide +kernel
theorem dL_law_1931 : decode cL_law 1931 = .ok (.ireturn, 1) := by decide +kernel
theorem dL_law_1932 : decode cL_law 1932 = .ok (.aload_n 1, 1) := by decide +kernel
theorem dL_law_1933 : decode cL_law 1933 = .ok (.aload_n 3, 1) := by decide +kernel
theorem dL_law_1934 : decode cL_law 1934 = .ok (.invokestatic 209, 3) := by decide +kernel
theorem dL_law_1937 : decode cL_law 1937 = .ok (.istore 6, 2) := by decide +kernel
theorem dL_law_1939 : decode cL_law 1939 = .ok (.aload_n 2, 1) := by decide +kernel
theorem dL_law_1940 : decode cL_law 1940 = .ok (.invokevirtual 211, 3) := by decide +kernel
theorem dL_law_1943 : decode cL_law 1943 = .ok (.lstore 7, 2) := by decide +kernel
theorem dL_law_1945 : decode cL_law 1945 = .ok (.aload_n 2, 1) := by decide +kernel
theorem dL_law_1946 : decode cL_law 1946 = .ok (.invokevirtual 114, 3) := by decide +kernel
theorem dL_law_1949 : decode cL_law 1949 = .ok (.iload 6, 2) := by decide +kernel
theorem dL_law_1951 : decode cL_law 1951 = .ok (.if_icmp .eq 5, 3) := by decide +kernel
theorem dL_law_1954 : decode cL_law 1954 = .ok (.iconst 0, 1) := by decide +kernel
theorem dL_law_1955 : decode cL_law 1955 = .ok (.ireturn, 1) := by decide +kernel
theorem dL_law_1956 : decode cL_law 1956 = .ok (.iload 6, 2) := by decide +kernel
theorem dL_law_1958 : decode cL_law 1958 = .ok (.ifCond .ne 14, 3) := by decide +kernel
theorem dL_law_1961 : decode cL_law 1961 = .ok (.aload_n 3, 1) := by decide +kernel
theorem dL_law_1962 : decode cL_law 1962 = .ok (.iconst 0, 1) := by decide +kernel
theorem dL_law_1963 : decode cL_law 1963 = .ok (.laload, 1) := by decide +kernel
theorem dL_law_1964 : decode cL_law 1964 = .ok (.lload 7, 2) := by decide +kernel
theorem dL_law_1966 : decode cL_law 1966 = .ok (.lcmp, 1) := by decide +kernel
theorem dL_law_1967 : decode cL_law 1967 = .ok (.ifCond .eq 5, 3) := by decide +kernel
theorem dL_law_1970 : decode cL_law 1970 = .ok (.iconst 0, 1) := by decide +kernel
theorem dL_law_1971 : decode cL_law 1971 = .ok (.ireturn, 1) := by decide +kernel
theorem dL_law_1972 : decode cL_law 1972 = .ok (.goto 30, 3) := by decide +kernel
theorem dL_law_1975 : decode cL_law 1975 = .ok (.aload_n 1, 1) := by decide +kernel
theorem dL_law_1976 : decode cL_law 1976 = .ok (.invokevirtual 212, 3) := by decide +kernel
theorem dL_law_1979 : decode cL_law 1979 = .ok (.aload_n 2, 1) := by decide +kernel
theorem dL_law_1980 : decode cL_law 1980 = .ok (.invokevirtual 215, 3) := by decide +kernel
theorem dL_law_1983 : decode cL_law 1983 = .ok (.lcmp, 1) := by decide +kernel
theorem dL_law_1984 : decode cL_law 1984 = .ok (.ifCond .eq 18, 3) := by decide +kernel
theorem dL_law_1987 : decode cL_law 1987 = .ok (.iconst 0, 1) := by decide +kernel
theorem dL_law_1988 : decode cL_law 1988 = .ok (.ireturn, 1) := by decide +kernel
theorem dL_law_1989 : decode cL_law 1989 = .ok (.aload_n 1, 1) := by decide +kernel
theorem dL_law_1990 : decode cL_law 1990 = .ok (.invokevirtual 216, 3) := by decide +kernel
theorem dL_law_1993 : decode cL_law 1993 = .ok (.aload_n 2, 1) := by decide +kernel
theorem dL_law_1994 : decode cL_law 1994 = .ok (.invokevirtual 220, 3) := by decide +kernel
theorem dL_law_1997 : decode cL_law 1997 = .ok (.if_icmp .eq 5, 3) := by decide +kernel
theorem dL_law_2000 : decode cL_law 2000 = .ok (.iconst 0, 1) := by decide +kernel
theorem dL_law_2001 : decode cL_law 2001 = .ok (.ireturn, 1) := by decide +kernel
theorem dL_law_2002 : decode cL_law 2002 = .ok (.iinc 5 5, 3) := by decide +kernel
theorem dL_law_2005 : decode cL_law 2005 = .ok (.goto (-1977), 3) := by decide +kernel
theorem dL_law_2008 : decode cL_law 2008 = .ok (.iconst 1, 1) := by decide +kernel
theorem dL_law_2009 : decode cL_law 2009 = .ok (.ireturn, 1) := by decide +kernel
end
section
theorem dX0_init_0 : decode cX0_init 0 = .ok (.aload_n 0, 1) := by decide +kernel
theorem dX0_init_1 : decode cX0_init 1 = .ok (.invokespecial 3, 3) := by decide +kernel
theorem dX0_init_4 : decode cX0_init 4 = .ok (.aload_n 0, 1) := by decide +kernel
theorem dX0_init_5 : decode cX0_init 5 = .ok (.bipush 12, 2) := by decide +kernel
theorem dX0_init_7 : decode cX0_init 7 = .ok (.newarray .boolean, 2) := by decide +kernel
theorem dX0_init_9 : decode cX0_init 9 = .ok (.putfield 9, 3) := by decide +kernel
theorem dX0_init_12 : decode cX0_init 12 = .ok (.aload_n 0, 1) := by decide +kernel
theorem dX0_init_13 : decode cX0_init 13 = .ok (.bipush 12, 2) := by decide +kernel
theorem dX0_init_15 : decode cX0_init 15 = .ok (.newarray .int, 2) := by decide +kernel
theorem dX0_init_17 : decode cX0_init 17 = .ok (.putfield 13, 3) := by decide +kernel
theorem dX0_init_20 : decode cX0_init 20 = .ok (.aload_n 0, 1) := by decide +kernel
theorem dX0_init_21 : decode cX0_init 21 = .ok (.bipush 12, 2) := by decide +kernel
theorem dX0_init_23 : decode cX0_init 23 = .ok (.newarray .int, 2) := by decide +kernel
theorem dX0_init_25 : decode cX0_init 25 = .ok (.putfield 17, 3) := by decide +kernel
theorem dX0_init_28 : decode cX0_init 28 = .ok (.aload_n 0, 1) := by decide +kernel
theorem dX0_init_29 : decode cX0_init 29 = .ok (.bipush 12, 2) := by decide +kernel
theorem dX0_init_31 : decode cX0_init 31 = .ok (.newarray .int, 2) := by decide +kernel
theorem dX0_init_33 : decode cX0_init 33 = .ok (.putfield 20, 3) := by decide +kernel
theorem dX0_init_36 : decode cX0_init 36 = .ok (.aload_n 0, 1) := by decide +kernel
theorem dX0_init_37 : decode cX0_init 37 = .ok (.iconst 0, 1) := by decide +kernel
theorem dX0_init_38 : decode cX0_init 38 = .ok (.putfield 23, 3) := by decide +kernel
theorem dX0_init_41 : decode cX0_init 41 = .ok (.aload_n 0, 1) := by decide +kernel
theorem dX0_init_42 : decode cX0_init 42 = .ok (.iconst 0, 1) := by decide +kernel
theorem dX0_init_43 : decode cX0_init 43 = .ok (.putfield 27, 3) := by decide +kernel
theorem dX0_init_46 : decode cX0_init 46 = .ok (.return_, 1) := by decide +kernel
theorem dX0_put_0 : decode cX0_put 0 = .ok (.iload_n 1, 1) := by decide +kernel
theorem dX0_put_1 : decode cX0_put 1 = .ok (.invokestatic 31, 3) := by decide +kernel
theorem dX0_put_4 : decode cX0_put 4 = .ok (.iload_n 2, 1) := by decide +kernel
theorem dX0_put_5 : decode cX0_put 5 = .ok (.invokestatic 35, 3) := by decide +kernel
theorem dX0_put_8 : decode cX0_put 8 = .ok (.ifCond .eq 10, 3) := by decide +kernel
theorem dX0_put_11 : decode cX0_put 11 = .ok (.iload_n 3, 1) := by decide +kernel
theorem dX0_put_12 : decode cX0_put 12 = .ok (.invokestatic 35, 3) := by decide +kernel
theorem dX0_put_15 : decode cX0_put 15 = .ok (.ifCond .ne 13, 3) := by decide +kernel
theorem dX0_put_18 : decode cX0_put 18 = .ok (.new 39, 3) := by decide +kernel
theorem dX0_put_21 : decode cX0_put 21 = .ok (.dup, 1) := by decide +kernel
theorem dX0_put_22 : decode cX0_put 22 = .ok (.ldc 41, 2) := by decide +kernel
theorem dX0_put_24 : decode cX0_put 24 = .ok (.invokespecial 43, 3) := by decide +kernel
theorem dX0_put_27 : decode cX0_put 27 = .ok (.athrow, 1) := by decide +kernel
theorem dX0_put_28 : decode cX0_put 28 = .ok (.aload_n 0, 1) := by decide +kernel
theorem dX0_put_29 : decode cX0_put 29 = .ok (.iload_n 1, 1) := by decide +kernel
theorem dX0_put_30 : decode cX0_put 30 = .ok (.invokevirtual 46, 3) := by decide +kernel
theorem dX0_put_33 : decode cX0_put 33 = .ok (.ifCond .ne 7, 3) := by decide +kernel
theorem dX0_put_36 : decode cX0_put 36 = .ok (.iconst 1, 1) := by decide +kernel
theorem dX0_put_37 : decode cX0_put 37 = .ok (.goto 4, 3) := by decide +kernel
theorem dX0_put_40 : decode cX0_put 40 = .ok (.iconst 0, 1) := by decide +kernel
theorem dX0_put_41 : decode cX0_put 41 = .ok (.istore 4, 2) := by decide +kernel
theorem dX0_put_43 : decode cX0_put 43 = .ok (.aload_n 0, 1) := by decide +kernel
theorem dX0_put_44 : decode cX0_put 44 = .ok (.iload_n 1, 1) := by decide +kernel
theorem dX0_put_45 : decode cX0_put 45 = .ok (.iload_n 2, 1) := by decide +kernel
theorem dX0_put_46 : decode cX0_put 46 = .ok (.iload_n 3, 1) := by decide +kernel
theorem dX0_put_47 : decode cX0_put 47 = .ok (.invokevirtual 49, 3) := by decide +kernel
theorem dX0_put_50 : decode cX0_put 50 = .ok (.iload 4, 2) := by decide +kernel
theorem dX0_put_52 : decode cX0_put 52 = .ok (.ireturn, 1) := by decide +kernel
theorem dX0_take_0 : decode cX0_take 0 = .ok (.iload_n 1, 1) := by decide +kernel
theorem dX0_take_1 : decode cX0_take 1 = .ok (.invokestatic 31, 3) := by decide +kernel
theorem dX0_take_4 : decode cX0_take 4 = .ok (.aload_n 0, 1) := by decide +kernel
theorem dX0_take_5 : decode cX0_take 5 = .ok (.iload_n 1, 1) := by decide +kernel
theorem dX0_take_6 : decode cX0_take 6 = .ok (.invokevirtual 53, 3) := by decide +kernel
theorem dX0_take_9 : decode cX0_take 9 = .ok (.aload_n 0, 1) := by decide +kernel
theorem dX0_take_10 : decode cX0_take 10 = .ok (.iload_n 1, 1) := by decide +kernel
theorem dX0_take_11 : decode cX0_take 11 = .ok (.invokevirtual 56, 3) := by decide +kernel
theorem dX0_take_14 : decode cX0_take 14 = .ok (.ifCond .eq 13, 3) := by decide +kernel
theorem dX0_take_17 : decode cX0_take 17 = .ok (.new 59, 3) := by decide +kernel
theorem dX0_take_20 : decode cX0_take 20 = .ok (.dup, 1) := by decide +kernel
theorem dX0_take_21 : decode cX0_take 21 = .ok (.ldc 61, 2) := by decide +kernel
theorem dX0_take_23 : decode cX0_take 23 = .ok (.invokespecial 63, 3) := by decide +kernel
theorem dX0_take_26 : decode cX0_take 26 = .ok (.athrow, 1) := by decide +kernel
theorem dX0_take_27 : decode cX0_take 27 = .ok (.iload_n 1, 1) := by decide +kernel
theorem dX0_take_28 : decode cX0_take 28 = .ok (.invokestatic 64, 3) := by decide +kernel
theorem dX0_take_31 : decode cX0_take 31 = .ok (.ifCond .eq 10, 3) := by decide +kernel
theorem dX0_take_34 : decode cX0_take 34 = .ok (.aload_n 0, 1) := by decide +kernel
theorem dX0_take_35 : decode cX0_take 35 = .ok (.getfield 9, 3) := by decide +kernel
theorem dX0_take_38 : decode cX0_take 38 = .ok (.iload_n 1, 1) := by decide +kernel
theorem dX0_take_39 : decode cX0_take 39 = .ok (.iconst 0, 1) := by decide +kernel
theorem dX0_take_40 : decode cX0_take 40 = .ok (.bastore, 1) := by decide +kernel
theorem dX0_take_41 : decode cX0_take 41 = .ok (.return_, 1) := by decide +kernel
theorem dX0_step_0 : decode cX0_step 0 = .ok (.iload_n 1, 1) := by decide +kernel
theorem dX0_step_1 : decode cX0_step 1 = .ok (.invokestatic 31, 3) := by decide +kernel
theorem dX0_step_4 : decode cX0_step 4 = .ok (.aload_n 0, 1) := by decide +kernel
theorem dX0_step_5 : decode cX0_step 5 = .ok (.iload_n 1, 1) := by decide +kernel
theorem dX0_step_6 : decode cX0_step 6 = .ok (.invokevirtual 53, 3) := by decide +kernel
theorem dX0_step_9 : decode cX0_step 9 = .ok (.iload_n 2, 1) := by decide +kernel
theorem dX0_step_10 : decode cX0_step 10 = .ok (.bipush 110, 2) := by decide +kernel
theorem dX0_step_12 : decode cX0_step 12 = .ok (.if_icmp .eq 31, 3) := by decide +kernel
theorem dX0_step_15 : decode cX0_step 15 = .ok (.iload_n 2, 1) := by decide +kernel
theorem dX0_step_16 : decode cX0_step 16 = .ok (.bipush 115, 2) := by decide +kernel
theorem dX0_step_18 : decode cX0_step 18 = .ok (.if_icmp .eq 25, 3) := by decide +kernel
theorem dX0_step_21 : decode cX0_step 21 = .ok (.iload_n 2, 1) := by decide +kernel
theorem dX0_step_22 : decode cX0_step 22 = .ok (.bipush 101, 2) := by decide +kernel
theorem dX0_step_24 : decode cX0_step 24 = .ok (.if_icmp .eq 19, 3) := by decide +kernel
theorem dX0_step_27 : decode cX0_step 27 = .ok (.iload_n 2, 1) := by decide +kernel
theorem dX0_step_28 : decode cX0_step 28 = .ok (.bipush 119, 2) := by decide +kernel
theorem dX0_step_30 : decode cX0_step 30 = .ok (.if_icmp .eq 13, 3) := by decide +kernel
theorem dX0_step_33 : decode cX0_step 33 = .ok (.new 39, 3) := by decide +kernel
theorem dX0_step_36 : decode cX0_step 36 = .ok (.dup, 1) := by decide +kernel
theorem dX0_step_37 : decode cX0_step 37 = .ok (.ldc 67, 2) := by decide +kernel
theorem dX0_step_39 : decode cX0_step 39 = .ok (.invokespecial 43, 3) := by decide +kernel
theorem dX0_step_42 : decode cX0_step 42 = .ok (.athrow, 1) := by decide +kernel
theorem dX0_step_43 : decode cX0_step 43 = .ok (.aload_n 0, 1) := by decide +kernel
theorem dX0_step_44 : decode cX0_step 44 = .ok (.iload_n 1, 1) := by decide +kernel
theorem dX0_step_45 : decode cX0_step 45 = .ok (.invokevirtual 69, 3) := by decide +kernel
theorem dX0_step_48 : decode cX0_step 48 = .ok (.iload_n 2, 1) := by decide +kernel
theorem dX0_step_49 : decode cX0_step 49 = .ok (.bipush 101, 2) := by decide +kernel
theorem dX0_step_51 : decode cX0_step 51 = .ok (.if_icmp .ne 7, 3) := by decide +kernel
theorem dX0_step_54 : decode cX0_step 54 = .ok (.iconst 1, 1) := by decide +kernel
theorem dX0_step_55 : decode cX0_step 55 = .ok (.goto 14, 3) := by decide +kernel
theorem dX0_step_58 : decode cX0_step 58 = .ok (.iload_n 2, 1) := by decide +kernel
theorem dX0_step_59 : decode cX0_step 59 = .ok (.bipush 119, 2) := by decide +kernel
theorem dX0_step_61 : decode cX0_step 61 = .ok (.if_icmp .ne 7, 3) := by decide +kernel
theorem dX0_step_64 : decode cX0_step 64 = .ok (.iconst (-1), 1) := by decide +kernel
theorem dX0_step_65 : decode cX0_step 65 = .ok (.goto 4, 3) := by decide +kernel
theorem dX0_step_68 : decode cX0_step 68 = .ok (.iconst 0, 1) := by decide +kernel
theorem dX0_step_69 : decode cX0_step 69 = .ok (.iadd, 1) := by decide +kernel
theorem dX0_step_70 : decode cX0_step 70 = .ok (.istore_n 3, 1) := by decide +kernel
theorem dX0_step_71 : decode cX0_step 71 = .ok (.aload_n 0, 1) := by decide +kernel
theorem dX0_step_72 : decode cX0_step 72 = .ok (.iload_n 1, 1) := by decide +kernel
theorem dX0_step_73 : decode cX0_step 73 = .ok (.invokevirtual 73, 3) := by decide +kernel
theorem dX0_step_76 : decode cX0_step 76 = .ok (.iload_n 2, 1) := by decide +kernel
theorem dX0_step_77 : decode cX0_step 77 = .ok (.bipush 110, 2) := by decide +kernel
theorem dX0_step_79 : decode cX0_step 79 = .ok (.if_icmp .ne 7, 3) := by decide +kernel
theorem dX0_step_82 : decode cX0_step 82 = .ok (.iconst 1, 1) := by decide +kernel
theorem dX0_step_83 : decode cX0_step 83 = .ok (.goto 14, 3) := by decide +kernel
theorem dX0_step_86 : decode cX0_step 86 = .ok (.iload_n 2, 1) := by decide +kernel
theorem dX0_step_87 : decode cX0_step 87 = .ok (.bipush 115, 2) := by decide +kernel
theorem dX0_step_89 : decode cX0_step 89 = .ok (.if_icmp .ne 7, 3) := by decide +kernel
theorem dX0_step_92 : decode cX0_step 92 = .ok (.iconst (-1), 1) := by decide +kernel
theorem dX0_step_93 : decode cX0_step 93 = .ok (.goto 4, 3) := by decide +kernel
theorem dX0_step_96 : decode cX0_step 96 = .ok (.iconst 0, 1) := by decide +kernel
theorem dX0_step_97 : decode cX0_step 97 = .ok (.iadd, 1) := by decide +kernel
theorem dX0_step_98 : decode cX0_step 98 = .ok (.istore 4, 2) := by decide +kernel
theorem dX0_step_100 : decode cX0_step 100 = .ok (.iload_n 3, 1) := by decide +kernel
theorem dX0_step_101 : decode cX0_step 101 = .ok (.invokestatic 35, 3) := by decide +kernel
theorem dX0_step_104 : decode cX0_step 104 = .ok (.ifCond .eq 11, 3) := by decide +kernel
theorem dX0_step_107 : decode cX0_step 107 = .ok (.iload 4, 2) := by decide +kernel
theorem dX0_step_109 : decode cX0_step 109 = .ok (.invokestatic 35, 3) := by decide +kernel
theorem dX0_step_112 : decode cX0_step 112 = .ok (.ifCond .ne 5, 3) := by decide +kernel
theorem dX0_step_115 : decode cX0_step 115 = .ok (.iconst 0, 1) := by decide +kernel
theorem dX0_step_116 : decode cX0_step 116 = .ok (.ireturn, 1) := by decide +kernel
theorem dX0_step_117 : decode cX0_step 117 = .ok (.aload_n 0, 1) := by decide +kernel
theorem dX0_step_118 : decode cX0_step 118 = .ok (.iload_n 1, 1) := by decide +kernel
theorem dX0_step_119 : decode cX0_step 119 = .ok (.iload_n 3, 1) := by decide +kernel
theorem dX0_step_120 : decode cX0_step 120 = .ok (.iload 4, 2) := by decide +kernel
theorem dX0_step_122 : decode cX0_step 122 = .ok (.invokevirtual 49, 3) := by decide +kernel
theorem dX0_step_125 : decode cX0_step 125 = .ok (.iconst 1, 1) := by decide +kernel
theorem dX0_step_126 : decode cX0_step 126 = .ok (.ireturn, 1) := by decide +kernel
theorem dX0_isThere_0 : decode cX0_isThere 0 = .ok (.iload_n 1, 1) := by decide +kernel
theorem dX0_isThere_1 : decode cX0_isThere 1 = .ok (.invokestatic 31, 3) := by decide +kernel
theorem dX0_isThere_4 : decode cX0_isThere 4 = .ok (.aload_n 0, 1) := by decide +kernel
theorem dX0_isThere_5 : decode cX0_isThere 5 = .ok (.iload_n 1, 1) := by decide +kernel
theorem dX0_isThere_6 : decode cX0_isThere 6 = .ok (.invokevirtual 46, 3) := by decide +kernel
theorem dX0_isThere_9 : decode cX0_isThere 9 = .ok (.ireturn, 1) := by decide +kernel
theorem dX0_placeOf_0 : decode cX0_placeOf 0 = .ok (.iload_n 1, 1) := by decide +kernel
theorem dX0_placeOf_1 : decode cX0_placeOf 1 = .ok (.invokestatic 31, 3) := by decide +kernel
theorem dX0_placeOf_4 : decode cX0_placeOf 4 = .ok (.aload_n 0, 1) := by decide +kernel
theorem dX0_placeOf_5 : decode cX0_placeOf 5 = .ok (.iload_n 1, 1) := by decide +kernel
theorem dX0_placeOf_6 : decode cX0_placeOf 6 = .ok (.invokevirtual 53, 3) := by decide +kernel
theorem dX0_placeOf_9 : decode cX0_placeOf 9 = .ok (.aload_n 0, 1) := by decide +kernel
theorem dX0_placeOf_10 : decode cX0_placeOf 10 = .ok (.iload_n 1, 1) := by decide +kernel
theorem dX0_placeOf_11 : decode cX0_placeOf 11 = .ok (.invokevirtual 73, 3) := by decide +kernel
theorem dX0_placeOf_14 : decode cX0_placeOf 14 = .ok (.bipush 91, 2) := by decide +kernel
theorem dX0_placeOf_16 : decode cX0_placeOf 16 = .ok (.imul, 1) := by decide +kernel
theorem dX0_placeOf_17 : decode cX0_placeOf 17 = .ok (.aload_n 0, 1) := by decide +kernel
theorem dX0_placeOf_18 : decode cX0_placeOf 18 = .ok (.iload_n 1, 1) := by decide +kernel
theorem dX0_placeOf_19 : decode cX0_placeOf 19 = .ok (.invokevirtual 69, 3) := by decide +kernel
theorem dX0_placeOf_22 : decode cX0_placeOf 22 = .ok (.iadd, 1) := by decide +kernel
theorem dX0_placeOf_23 : decode cX0_placeOf 23 = .ok (.ireturn, 1) := by decide +kernel
theorem dX0_count_0 : decode cX0_count 0 = .ok (.iconst 0, 1) := by decide +kernel
theorem dX0_count_1 : decode cX0_count 1 = .ok (.istore_n 1, 1) := by decide +kernel
theorem dX0_count_2 : decode cX0_count 2 = .ok (.iconst 0, 1) := by decide +kernel
theorem dX0_count_3 : decode cX0_count 3 = .ok (.istore_n 2, 1) := by decide +kernel
theorem dX0_count_4 : decode cX0_count 4 = .ok (.iload_n 2, 1) := by decide +kernel
theorem dX0_count_5 : decode cX0_count 5 = .ok (.bipush 12, 2) := by decide +kernel
theorem dX0_count_7 : decode cX0_count 7 = .ok (.if_icmp .ge 20, 3) := by decide +kernel
theorem dX0_count_10 : decode cX0_count 10 = .ok (.aload_n 0, 1) := by decide +kernel
theorem dX0_count_11 : decode cX0_count 11 = .ok (.iload_n 2, 1) := by decide +kernel
theorem dX0_count_12 : decode cX0_count 12 = .ok (.invokevirtual 46, 3) := by decide +kernel
theorem dX0_count_15 : decode cX0_count 15 = .ok (.ifCond .eq 6, 3) := by decide +kernel
theorem dX0_count_18 : decode cX0_count 18 = .ok (.iinc 1 1, 3) := by decide +kernel
theorem dX0_count_21 : decode cX0_count 21 = .ok (.iinc 2 1, 3) := by decide +kernel
theorem dX0_count_24 : decode cX0_count 24 = .ok (.goto (-20), 3) := by decide +kernel
theorem dX0_count_27 : decode cX0_count 27 = .ok (.iload_n 1, 1) := by decide +kernel
theorem dX0_count_28 : decode cX0_count 28 = .ok (.ireturn, 1) := by decide +kernel
theorem dX0_widen_0 : decode cX0_widen 0 = .ok (.aload_n 0, 1) := by decide +kernel
theorem dX0_widen_1 : decode cX0_widen 1 = .ok (.getfield 27, 3) := by decide +kernel
theorem dX0_widen_4 : decode cX0_widen 4 = .ok (.iload_n 1, 1) := by decide +kernel
theorem dX0_widen_5 : decode cX0_widen 5 = .ok (.if_icmp .eq 7, 3) := by decide +kernel
theorem dX0_widen_8 : decode cX0_widen 8 = .ok (.iconst 1, 1) := by decide +kernel
theorem dX0_widen_9 : decode cX0_widen 9 = .ok (.goto 4, 3) := by decide +kernel
theorem dX0_widen_12 : decode cX0_widen 12 = .ok (.iconst 0, 1) := by decide +kernel
theorem dX0_widen_13 : decode cX0_widen 13 = .ok (.istore_n 2, 1) := by decide +kernel
theorem dX0_widen_14 : decode cX0_widen 14 = .ok (.aload_n 0, 1) := by decide +kernel
theorem dX0_widen_15 : decode cX0_widen 15 = .ok (.iload_n 1, 1) := by decide +kernel
theorem dX0_widen_16 : decode cX0_widen 16 = .ok (.putfield 27, 3) := by decide +kernel
theorem dX0_widen_19 : decode cX0_widen 19 = .ok (.iload_n 2, 1) := by decide +kernel
theorem dX0_widen_20 : decode cX0_widen 20 = .ok (.ireturn, 1) := by decide +kernel
theorem dX0_stretch_0 : decode cX0_stretch 0 = .ok (.aload_n 0, 1) := by decide +kernel
theorem dX0_stretch_1 : decode cX0_stretch 1 = .ok (.iload_n 1, 1) := by decide +kernel
theorem dX0_stretch_2 : decode cX0_stretch 2 = .ok (.iload_n 2, 1) := by decide +kernel
theorem dX0_stretch_3 : decode cX0_stretch 3 = .ok (.invokevirtual 76, 3) := by decide +kernel
theorem dX0_stretch_6 : decode cX0_stretch 6 = .ok (.aload_n 0, 1) := by decide +kernel
theorem dX0_stretch_7 : decode cX0_stretch 7 = .ok (.iload_n 1, 1) := by decide +kernel
theorem dX0_stretch_8 : decode cX0_stretch 8 = .ok (.iload_n 2, 1) := by decide +kernel
theorem dX0_stretch_9 : decode cX0_stretch 9 = .ok (.invokevirtual 80, 3) := by decide +kernel
theorem dX0_stretch_12 : decode cX0_stretch 12 = .ok (.ireturn, 1) := by decide +kernel
theorem dX0_isSteady_0 : decode cX0_isSteady 0 = .ok (.aload_n 0, 1) := by decide +kernel
theorem dX0_isSteady_1 : decode cX0_isSteady 1 = .ok (.iload_n 1, 1) := by decide +kernel
theorem dX0_isSteady_2 : decode cX0_isSteady 2 = .ok (.iload_n 2, 1) := by decide +kernel
theorem dX0_isSteady_3 : decode cX0_isSteady 3 = .ok (.invokevirtual 76, 3) := by decide +kernel
theorem dX0_isSteady_6 : decode cX0_isSteady 6 = .ok (.aload_n 0, 1) := by decide +kernel
theorem dX0_isSteady_7 : decode cX0_isSteady 7 = .ok (.iload_n 2, 1) := by decide +kernel
theorem dX0_isSteady_8 : decode cX0_isSteady 8 = .ok (.invokevirtual 69, 3) := by decide +kernel
theorem dX0_isSteady_11 : decode cX0_isSteady 11 = .ok (.aload_n 0, 1) := by decide +kernel
theorem dX0_isSteady_12 : decode cX0_isSteady 12 = .ok (.iload_n 1, 1) := by decide +kernel
theorem dX0_isSteady_13 : decode cX0_isSteady 13 = .ok (.invokevirtual 69, 3) := by decide +kernel
theorem dX0_isSteady_16 : decode cX0_isSteady 16 = .ok (.isub, 1) := by decide +kernel
theorem dX0_isSteady_17 : decode cX0_isSteady 17 = .ok (.istore_n 3, 1) := by decide +kernel
theorem dX0_isSteady_18 : decode cX0_isSteady 18 = .ok (.aload_n 0, 1) := by decide +kernel
theorem dX0_isSteady_19 : decode cX0_isSteady 19 = .ok (.iload_n 2, 1) := by decide +kernel
theorem dX0_isSteady_20 : decode cX0_isSteady 20 = .ok (.invokevirtual 73, 3) := by decide +kernel
theorem dX0_isSteady_23 : decode cX0_isSteady 23 = .ok (.aload_n 0, 1) := by decide +kernel
theorem dX0_isSteady_24 : decode cX0_isSteady 24 = .ok (.iload_n 1, 1) := by decide +kernel
theorem dX0_isSteady_25 : decode cX0_isSteady 25 = .ok (.invokevirtual 73, 3) := by decide +kernel
theorem dX0_isSteady_28 : decode cX0_isSteady 28 = .ok (.isub, 1) := by decide +kernel
theorem dX0_isSteady_29 : decode cX0_isSteady 29 = .ok (.istore 4, 2) := by decide +kernel
theorem dX0_isSteady_31 : decode cX0_isSteady 31 = .ok (.iload_n 3, 1) := by decide +kernel
theorem dX0_isSteady_32 : decode cX0_isSteady 32 = .ok (.iload 4, 2) := by decide +kernel
theorem dX0_isSteady_34 : decode cX0_isSteady 34 = .ok (.aload_n 0, 1) := by decide +kernel
theorem dX0_isSteady_35 : decode cX0_isSteady 35 = .ok (.getfield 27, 3) := by decide +kernel
theorem dX0_isSteady_38 : decode cX0_isSteady 38 = .ok (.invokestatic 84, 3) := by decide +kernel
theorem dX0_isSteady_41 : decode cX0_isSteady 41 = .ok (.lstore 5, 2) := by decide +kernel
theorem dX0_isSteady_43 : decode cX0_isSteady 43 = .ok (.iconst 0, 1) := by decide +kernel
theorem dX0_isSteady_44 : decode cX0_isSteady 44 = .ok (.istore 7, 2) := by decide +kernel
theorem dX0_isSteady_46 : decode cX0_isSteady 46 = .ok (.iload 7, 2) := by decide +kernel
theorem dX0_isSteady_48 : decode cX0_isSteady 48 = .ok (.iconst 4, 1) := by decide +kernel
theorem dX0_isSteady_49 : decode cX0_isSteady 49 = .ok (.if_icmp .ge 77, 3) := by decide +kernel
theorem dX0_isSteady_52 : decode cX0_isSteady 52 = .ok (.iload 7, 2) := by decide +kernel
theorem dX0_isSteady_54 : decode cX0_isSteady 54 = .ok (.iconst 1, 1) := by decide +kernel
theorem dX0_isSteady_55 : decode cX0_isSteady 55 = .ok (.iand, 1) := by decide +kernel
theorem dX0_isSteady_56 : decode cX0_isSteady 56 = .ok (.ifCond .ne 7, 3) := by decide +kernel
theorem dX0_isSteady_59 : decode cX0_isSteady 59 = .ok (.iload_n 3, 1) := by decide +kernel
theorem dX0_isSteady_60 : decode cX0_isSteady 60 = .ok (.goto 5, 3) := by decide +kernel
theorem dX0_isSteady_63 : decode cX0_isSteady 63 = .ok (.iload_n 3, 1) := by decide +kernel
theorem dX0_isSteady_64 : decode cX0_isSteady 64 = .ok (.ineg, 1) := by decide +kernel
theorem dX0_isSteady_65 : decode cX0_isSteady 65 = .ok (.istore 8, 2) := by decide +kernel
theorem dX0_isSteady_67 : decode cX0_isSteady 67 = .ok (.iload 7, 2) := by decide +kernel
theorem dX0_isSteady_69 : decode cX0_isSteady 69 = .ok (.iconst 2, 1) := by decide +kernel
theorem dX0_isSteady_70 : decode cX0_isSteady 70 = .ok (.iand, 1) := by decide +kernel
theorem dX0_isSteady_71 : decode cX0_isSteady 71 = .ok (.ifCond .ne 8, 3) := by decide +kernel
theorem dX0_isSteady_74 : decode cX0_isSteady 74 = .ok (.iload 4, 2) := by decide +kernel
theorem dX0_isSteady_76 : decode cX0_isSteady 76 = .ok (.goto 6, 3) := by decide +kernel
theorem dX0_isSteady_79 : decode cX0_isSteady 79 = .ok (.iload 4, 2) := by decide +kernel
theorem dX0_isSteady_81 : decode cX0_isSteady 81 = .ok (.ineg, 1) := by decide +kernel
theorem dX0_isSteady_82 : decode cX0_isSteady 82 = .ok (.istore 9, 2) := by decide +kernel
theorem dX0_isSteady_84 : decode cX0_isSteady 84 = .ok (.iload 8, 2) := by decide +kernel
theorem dX0_isSteady_86 : decode cX0_isSteady 86 = .ok (.iload 9, 2) := by decide +kernel
theorem dX0_isSteady_88 : decode cX0_isSteady 88 = .ok (.aload_n 0, 1) := by decide +kernel
theorem dX0_isSteady_89 : decode cX0_isSteady 89 = .ok (.getfield 27, 3) := by decide +kernel
theorem dX0_isSteady_92 : decode cX0_isSteady 92 = .ok (.invokestatic 84, 3) := by decide +kernel
theorem dX0_isSteady_95 : decode cX0_isSteady 95 = .ok (.lload 5, 2) := by decide +kernel
theorem dX0_isSteady_97 : decode cX0_isSteady 97 = .ok (.lcmp, 1) := by decide +kernel
theorem dX0_isSteady_98 : decode cX0_isSteady 98 = .ok (.ifCond .ne 20, 3) := by decide +kernel
theorem dX0_isSteady_101 : decode cX0_isSteady 101 = .ok (.iload 9, 2) := by decide +kernel
theorem dX0_isSteady_103 : decode cX0_isSteady 103 = .ok (.iload 8, 2) := by decide +kernel
theorem dX0_isSteady_105 : decode cX0_isSteady 105 = .ok (.aload_n 0, 1) := by decide +kernel
theorem dX0_isSteady_106 : decode cX0_isSteady 106 = .ok (.getfield 27, 3) := by decide +kernel
theorem dX0_isSteady_109 : decode cX0_isSteady 109 = .ok (.invokestatic 84, 3) := by decide +kernel
theorem dX0_isSteady_112 : decode cX0_isSteady 112 = .ok (.lload 5, 2) := by decide +kernel
theorem dX0_isSteady_114 : decode cX0_isSteady 114 = .ok (.lcmp, 1) := by decide +kernel
theorem dX0_isSteady_115 : decode cX0_isSteady 115 = .ok (.ifCond .eq 5, 3) := by decide +kernel
theorem dX0_isSteady_118 : decode cX0_isSteady 118 = .ok (.iconst 0, 1) := by decide +kernel
theorem dX0_isSteady_119 : decode cX0_isSteady 119 = .ok (.ireturn, 1) := by decide +kernel
theorem dX0_isSteady_120 : decode cX0_isSteady 120 = .ok (.iinc 7 1, 3) := by decide +kernel
theorem dX0_isSteady_123 : decode cX0_isSteady 123 = .ok (.goto (-77), 3) := by decide +kernel
theorem dX0_isSteady_126 : decode cX0_isSteady 126 = .ok (.iconst 1, 1) := by decide +kernel
theorem dX0_isSteady_127 : decode cX0_isSteady 127 = .ok (.ireturn, 1) := by decide +kernel
theorem dX0_isDoubled_0 : decode cX0_isDoubled 0 = .ok (.aload_n 0, 1) := by decide +kernel
theorem dX0_isDoubled_1 : decode cX0_isDoubled 1 = .ok (.iload_n 1, 1) := by decide +kernel
theorem dX0_isDoubled_2 : decode cX0_isDoubled 2 = .ok (.iload_n 2, 1) := by decide +kernel
theorem dX0_isDoubled_3 : decode cX0_isDoubled 3 = .ok (.invokevirtual 76, 3) := by decide +kernel
theorem dX0_isDoubled_6 : decode cX0_isDoubled 6 = .ok (.aload_n 0, 1) := by decide +kernel
theorem dX0_isDoubled_7 : decode cX0_isDoubled 7 = .ok (.iload_n 2, 1) := by decide +kernel
theorem dX0_isDoubled_8 : decode cX0_isDoubled 8 = .ok (.invokevirtual 69, 3) := by decide +kernel
theorem dX0_isDoubled_11 : decode cX0_isDoubled 11 = .ok (.aload_n 0, 1) := by decide +kernel
theorem dX0_isDoubled_12 : decode cX0_isDoubled 12 = .ok (.iload_n 1, 1) := by decide +kernel
theorem dX0_isDoubled_13 : decode cX0_isDoubled 13 = .ok (.invokevirtual 69, 3) := by decide +kernel
theorem dX0_isDoubled_16 : decode cX0_isDoubled 16 = .ok (.isub, 1) := by decide +kernel
theorem dX0_isDoubled_17 : decode cX0_isDoubled 17 = .ok (.istore_n 3, 1) := by decide +kernel
theorem dX0_isDoubled_18 : decode cX0_isDoubled 18 = .ok (.aload_n 0, 1) := by decide +kernel
theorem dX0_isDoubled_19 : decode cX0_isDoubled 19 = .ok (.iload_n 2, 1) := by decide +kernel
theorem dX0_isDoubled_20 : decode cX0_isDoubled 20 = .ok (.invokevirtual 73, 3) := by decide +kernel
theorem dX0_isDoubled_23 : decode cX0_isDoubled 23 = .ok (.aload_n 0, 1) := by decide +kernel
theorem dX0_isDoubled_24 : decode cX0_isDoubled 24 = .ok (.iload_n 1, 1) := by decide +kernel
theorem dX0_isDoubled_25 : decode cX0_isDoubled 25 = .ok (.invokevirtual 73, 3) := by decide +kernel
theorem dX0_isDoubled_28 : decode cX0_isDoubled 28 = .ok (.isub, 1) := by decide +kernel
theorem dX0_isDoubled_29 : decode cX0_isDoubled 29 = .ok (.istore 4, 2) := by decide +kernel
theorem dX0_isDoubled_31 : decode cX0_isDoubled 31 = .ok (.iload_n 3, 1) := by decide +kernel
theorem dX0_isDoubled_32 : decode cX0_isDoubled 32 = .ok (.iload 4, 2) := by decide +kernel
theorem dX0_isDoubled_34 : decode cX0_isDoubled 34 = .ok (.iconst 1, 1) := by decide +kernel
theorem dX0_isDoubled_35 : decode cX0_isDoubled 35 = .ok (.invokestatic 84, 3) := by decide +kernel
theorem dX0_isDoubled_38 : decode cX0_isDoubled 38 = .ok (.iload_n 3, 1) := by decide +kernel
theorem dX0_isDoubled_39 : decode cX0_isDoubled 39 = .ok (.iload 4, 2) := by decide +kernel
theorem dX0_isDoubled_41 : decode cX0_isDoubled 41 = .ok (.iconst 0, 1) := by decide +kernel
theorem dX0_isDoubled_42 : decode cX0_isDoubled 42 = .ok (.invokestatic 84, 3) := by decide +kernel
theorem dX0_isDoubled_45 : decode cX0_isDoubled 45 = .ok (.invokestatic 88, 3) := by decide +kernel
theorem dX0_isDoubled_48 : decode cX0_isDoubled 48 = .ok (.lcmp, 1) := by decide +kernel
theorem dX0_isDoubled_49 : decode cX0_isDoubled 49 = .ok (.ifCond .ne 7, 3) := by decide +kernel
theorem dX0_isDoubled_52 : decode cX0_isDoubled 52 = .ok (.iconst 1, 1) := by decide +kernel
theorem dX0_isDoubled_53 : decode cX0_isDoubled 53 = .ok (.goto 4, 3) := by decide +kernel
theorem dX0_isDoubled_56 : decode cX0_isDoubled 56 = .ok (.iconst 0, 1) := by decide +kernel
theorem dX0_isDoubled_57 : decode cX0_isDoubled 57 = .ok (.ireturn, 1) := by decide +kernel
theorem dX0_isClose_0 : decode cX0_isClose 0 = .ok (.aload_n 0, 1) := by decide +kernel
theorem dX0_isClose_1 : decode cX0_isClose 1 = .ok (.iload_n 1, 1) := by decide +kernel
theorem dX0_isClose_2 : decode cX0_isClose 2 = .ok (.iload_n 2, 1) := by decide +kernel
theorem dX0_isClose_3 : decode cX0_isClose 3 = .ok (.invokevirtual 76, 3) := by decide +kernel
theorem dX0_isClose_6 : decode cX0_isClose 6 = .ok (.aload_n 0, 1) := by decide +kernel
theorem dX0_isClose_7 : decode cX0_isClose 7 = .ok (.iload_n 2, 1) := by decide +kernel
theorem dX0_isClose_8 : decode cX0_isClose 8 = .ok (.invokevirtual 69, 3) := by decide +kernel
theorem dX0_isClose_11 : decode cX0_isClose 11 = .ok (.aload_n 0, 1) := by decide +kernel
theorem dX0_isClose_12 : decode cX0_isClose 12 = .ok (.iload_n 1, 1) := by decide +kernel
theorem dX0_isClose_13 : decode cX0_isClose 13 = .ok (.invokevirtual 69, 3) := by decide +kernel
theorem dX0_isClose_16 : decode cX0_isClose 16 = .ok (.isub, 1) := by decide +kernel
theorem dX0_isClose_17 : decode cX0_isClose 17 = .ok (.istore_n 3, 1) := by decide +kernel
theorem dX0_isClose_18 : decode cX0_isClose 18 = .ok (.aload_n 0, 1) := by decide +kernel
theorem dX0_isClose_19 : decode cX0_isClose 19 = .ok (.iload_n 2, 1) := by decide +kernel
theorem dX0_isClose_20 : decode cX0_isClose 20 = .ok (.invokevirtual 73, 3) := by decide +kernel
theorem dX0_isClose_23 : decode cX0_isClose 23 = .ok (.aload_n 0, 1) := by decide +kernel
theorem dX0_isClose_24 : decode cX0_isClose 24 = .ok (.iload_n 1, 1) := by decide +kernel
theorem dX0_isClose_25 : decode cX0_isClose 25 = .ok (.invokevirtual 73, 3) := by decide +kernel
theorem dX0_isClose_28 : decode cX0_isClose 28 = .ok (.isub, 1) := by decide +kernel
theorem dX0_isClose_29 : decode cX0_isClose 29 = .ok (.istore 4, 2) := by decide +kernel
theorem dX0_isClose_31 : decode cX0_isClose 31 = .ok (.iload_n 3, 1) := by decide +kernel
theorem dX0_isClose_32 : decode cX0_isClose 32 = .ok (.iload 4, 2) := by decide +kernel
theorem dX0_isClose_34 : decode cX0_isClose 34 = .ok (.aload_n 0, 1) := by decide +kernel
theorem dX0_isClose_35 : decode cX0_isClose 35 = .ok (.getfield 27, 3) := by decide +kernel
theorem dX0_isClose_38 : decode cX0_isClose 38 = .ok (.invokestatic 84, 3) := by decide +kernel
theorem dX0_isClose_41 : decode cX0_isClose 41 = .ok (.lstore 5, 2) := by decide +kernel
theorem dX0_isClose_43 : decode cX0_isClose 43 = .ok (.iload_n 3, 1) := by decide +kernel
theorem dX0_isClose_44 : decode cX0_isClose 44 = .ok (.iload 4, 2) := by decide +kernel
theorem dX0_isClose_46 : decode cX0_isClose 46 = .ok (.aload_n 0, 1) := by decide +kernel
theorem dX0_isClose_47 : decode cX0_isClose 47 = .ok (.getfield 27, 3) := by decide +kernel
theorem dX0_isClose_50 : decode cX0_isClose 50 = .ok (.invokestatic 92, 3) := by decide +kernel
theorem dX0_isClose_53 : decode cX0_isClose 53 = .ok (.istore 7, 2) := by decide +kernel
theorem dX0_isClose_55 : decode cX0_isClose 55 = .ok (.iload 7, 2) := by decide +kernel
theorem dX0_isClose_57 : decode cX0_isClose 57 = .ok (.ifCond .eq 10, 3) := by decide +kernel
theorem dX0_isClose_60 : decode cX0_isClose 60 = .ok (.lload 5, 2) := by decide +kernel
theorem dX0_isClose_62 : decode cX0_isClose 62 = .ok (.lconst 0, 1) := by decide +kernel
theorem dX0_isClose_63 : decode cX0_isClose 63 = .ok (.lcmp, 1) := by decide +kernel
theorem dX0_isClose_64 : decode cX0_isClose 64 = .ok (.ifCond .ne 21, 3) := by decide +kernel
theorem dX0_isClose_67 : decode cX0_isClose 67 = .ok (.iload 7, 2) := by decide +kernel
theorem dX0_isClose_69 : decode cX0_isClose 69 = .ok (.ifCond .ne 14, 3) := by decide +kernel
theorem dX0_isClose_72 : decode cX0_isClose 72 = .ok (.lload 5, 2) := by decide +kernel
theorem dX0_isClose_74 : decode cX0_isClose 74 = .ok (.lconst 0, 1) := by decide +kernel
theorem dX0_isClose_75 : decode cX0_isClose 75 = .ok (.lcmp, 1) := by decide +kernel
theorem dX0_isClose_76 : decode cX0_isClose 76 = .ok (.ifCond .ne 7, 3) := by decide +kernel
theorem dX0_isClose_79 : decode cX0_isClose 79 = .ok (.iconst 1, 1) := by decide +kernel
theorem dX0_isClose_80 : decode cX0_isClose 80 = .ok (.goto 4, 3) := by decide +kernel
theorem dX0_isClose_83 : decode cX0_isClose 83 = .ok (.iconst 0, 1) := by decide +kernel
theorem dX0_isClose_84 : decode cX0_isClose 84 = .ok (.ireturn, 1) := by decide +kernel
theorem dX0_isClose_85 : decode cX0_isClose 85 = .ok (.lload 5, 2) := by decide +kernel
theorem dX0_isClose_87 : decode cX0_isClose 87 = .ok (.invokestatic 96, 3) := by decide +kernel
theorem dX0_isClose_90 : decode cX0_isClose 90 = .ok (.lstore 8, 2) := by decide +kernel
theorem dX0_isClose_92 : decode cX0_isClose 92 = .ok (.lload 5, 2) := by decide +kernel
theorem dX0_isClose_94 : decode cX0_isClose 94 = .ok (.invokestatic 99, 3) := by decide +kernel
theorem dX0_isClose_97 : decode cX0_isClose 97 = .ok (.istore 10, 2) := by decide +kernel
theorem dX0_isClose_99 : decode cX0_isClose 99 = .ok (.lload 8, 2) := by decide +kernel
theorem dX0_isClose_101 : decode cX0_isClose 101 = .ok (.lconst 1, 1) := by decide +kernel
theorem dX0_isClose_102 : decode cX0_isClose 102 = .ok (.lsub, 1) := by decide +kernel
theorem dX0_isClose_103 : decode cX0_isClose 103 = .ok (.iload 10, 2) := by decide +kernel
theorem dX0_isClose_105 : decode cX0_isClose 105 = .ok (.iload 7, 2) := by decide +kernel
theorem dX0_isClose_107 : decode cX0_isClose 107 = .ok (.invokestatic 103, 3) := by decide +kernel
theorem dX0_isClose_110 : decode cX0_isClose 110 = .ok (.ifCond .gt 21, 3) := by decide +kernel
theorem dX0_isClose_113 : decode cX0_isClose 113 = .ok (.lload 8, 2) := by decide +kernel
theorem dX0_isClose_115 : decode cX0_isClose 115 = .ok (.lconst 1, 1) := by decide +kernel
theorem dX0_isClose_116 : decode cX0_isClose 116 = .ok (.ladd, 1) := by decide +kernel
theorem dX0_isClose_117 : decode cX0_isClose 117 = .ok (.iload 10, 2) := by decide +kernel
theorem dX0_isClose_119 : decode cX0_isClose 119 = .ok (.iload 7, 2) := by decide +kernel
theorem dX0_isClose_121 : decode cX0_isClose 121 = .ok (.invokestatic 103, 3) := by decide +kernel
theorem dX0_isClose_124 : decode cX0_isClose 124 = .ok (.ifCond .lt 7, 3) := by decide +kernel
theorem dX0_isClose_127 : decode cX0_isClose 127 = .ok (.iconst 1, 1) := by decide +kernel
theorem dX0_isClose_128 : decode cX0_isClose 128 = .ok (.goto 4, 3) := by decide +kernel
theorem dX0_isClose_131 : decode cX0_isClose 131 = .ok (.iconst 0, 1) := by decide +kernel
theorem dX0_isClose_132 : decode cX0_isClose 132 = .ok (.ireturn, 1) := by decide +kernel
theorem dX0_isStraight_0 : decode cX0_isStraight 0 = .ok (.iload_n 1, 1) := by decide +kernel
theorem dX0_isStraight_1 : decode cX0_isStraight 1 = .ok (.invokestatic 31, 3) := by decide +kernel
theorem dX0_isStraight_4 : decode cX0_isStraight 4 = .ok (.iload_n 2, 1) := by decide +kernel
theorem dX0_isStraight_5 : decode cX0_isStraight 5 = .ok (.invokestatic 31, 3) := by decide +kernel
theorem dX0_isStraight_8 : decode cX0_isStraight 8 = .ok (.iload_n 3, 1) := by decide +kernel
theorem dX0_isStraight_9 : decode cX0_isStraight 9 = .ok (.invokestatic 31, 3) := by decide +kernel
theorem dX0_isStraight_12 : decode cX0_isStraight 12 = .ok (.aload_n 0, 1) := by decide +kernel
theorem dX0_isStraight_13 : decode cX0_isStraight 13 = .ok (.iload_n 1, 1) := by decide +kernel
theorem dX0_isStraight_14 : decode cX0_isStraight 14 = .ok (.invokevirtual 53, 3) := by decide +kernel
theorem dX0_isStraight_17 : decode cX0_isStraight 17 = .ok (.aload_n 0, 1) := by decide +kernel
theorem dX0_isStraight_18 : decode cX0_isStraight 18 = .ok (.iload_n 2, 1) := by decide +kernel
theorem dX0_isStraight_19 : decode cX0_isStraight 19 = .ok (.invokevirtual 53, 3) := by decide +kernel
theorem dX0_isStraight_22 : decode cX0_isStraight 22 = .ok (.aload_n 0, 1) := by decide +kernel
theorem dX0_isStraight_23 : decode cX0_isStraight 23 = .ok (.iload_n 3, 1) := by decide +kernel
theorem dX0_isStraight_24 : decode cX0_isStraight 24 = .ok (.invokevirtual 53, 3) := by decide +kernel
theorem dX0_isStraight_27 : decode cX0_isStraight 27 = .ok (.aload_n 0, 1) := by decide +kernel
theorem dX0_isStraight_28 : decode cX0_isStraight 28 = .ok (.iload_n 1, 1) := by decide +kernel
theorem dX0_isStraight_29 : decode cX0_isStraight 29 = .ok (.iload_n 3, 1) := by decide +kernel
theorem dX0_isStraight_30 : decode cX0_isStraight 30 = .ok (.invokevirtual 80, 3) := by decide +kernel
theorem dX0_isStraight_33 : decode cX0_isStraight 33 = .ok (.aload_n 0, 1) := by decide +kernel
theorem dX0_isStraight_34 : decode cX0_isStraight 34 = .ok (.iload_n 1, 1) := by decide +kernel
theorem dX0_isStraight_35 : decode cX0_isStraight 35 = .ok (.iload_n 2, 1) := by decide +kernel
theorem dX0_isStraight_36 : decode cX0_isStraight 36 = .ok (.invokevirtual 80, 3) := by decide +kernel
theorem dX0_isStraight_39 : decode cX0_isStraight 39 = .ok (.aload_n 0, 1) := by decide +kernel
theorem dX0_isStraight_40 : decode cX0_isStraight 40 = .ok (.iload_n 2, 1) := by decide +kernel
theorem dX0_isStraight_41 : decode cX0_isStraight 41 = .ok (.iload_n 3, 1) := by decide +kernel
theorem dX0_isStraight_42 : decode cX0_isStraight 42 = .ok (.invokevirtual 80, 3) := by decide +kernel
theorem dX0_isStraight_45 : decode cX0_isStraight 45 = .ok (.iadd, 1) := by decide +kernel
theorem dX0_isStraight_46 : decode cX0_isStraight 46 = .ok (.iconst 1, 1) := by decide +kernel
theorem dX0_isStraight_47 : decode cX0_isStraight 47 = .ok (.iadd, 1) := by decide +kernel
theorem dX0_isStraight_48 : decode cX0_isStraight 48 = .ok (.if_icmp .gt 7, 3) := by decide +kernel
theorem dX0_isStraight_51 : decode cX0_isStraight 51 = .ok (.iconst 1, 1) := by decide +kernel
theorem dX0_isStraight_52 : decode cX0_isStraight 52 = .ok (.goto 4, 3) := by decide +kernel
theorem dX0_isStraight_55 : decode cX0_isStraight 55 = .ok (.iconst 0, 1) := by decide +kernel
theorem dX0_isStraight_56 : decode cX0_isStraight 56 = .ok (.ireturn, 1) := by decide +kernel
theorem dX0_nearest_0 : decode cX0_nearest 0 = .ok (.iload_n 1, 1) := by decide +kernel
theorem dX0_nearest_1 : decode cX0_nearest 1 = .ok (.invokestatic 31, 3) := by decide +kernel
theorem dX0_nearest_4 : decode cX0_nearest 4 = .ok (.aload_n 0, 1) := by decide +kernel
theorem dX0_nearest_5 : decode cX0_nearest 5 = .ok (.iload_n 1, 1) := by decide +kernel
theorem dX0_nearest_6 : decode cX0_nearest 6 = .ok (.invokevirtual 53, 3) := by decide +kernel
theorem dX0_nearest_9 : decode cX0_nearest 9 = .ok (.aload_n 0, 1) := by decide +kernel
theorem dX0_nearest_10 : decode cX0_nearest 10 = .ok (.iload_n 1, 1) := by decide +kernel
theorem dX0_nearest_11 : decode cX0_nearest 11 = .ok (.invokevirtual 107, 3) := by decide +kernel
theorem dX0_nearest_14 : decode cX0_nearest 14 = .ok (.istore_n 2, 1) := by decide +kernel
theorem dX0_nearest_15 : decode cX0_nearest 15 = .ok (.iload_n 2, 1) := by decide +kernel
theorem dX0_nearest_16 : decode cX0_nearest 16 = .ok (.iconst (-1), 1) := by decide +kernel
theorem dX0_nearest_17 : decode cX0_nearest 17 = .ok (.if_icmp .ne 13, 3) := by decide +kernel
theorem dX0_nearest_20 : decode cX0_nearest 20 = .ok (.new 59, 3) := by decide +kernel
theorem dX0_nearest_23 : decode cX0_nearest 23 = .ok (.dup, 1) := by decide +kernel
theorem dX0_nearest_24 : decode cX0_nearest 24 = .ok (.ldc 110, 2) := by decide +kernel
theorem dX0_nearest_26 : decode cX0_nearest 26 = .ok (.invokespecial 63, 3) := by decide +kernel
theorem dX0_nearest_29 : decode cX0_nearest 29 = .ok (.athrow, 1) := by decide +kernel
theorem dX0_nearest_30 : decode cX0_nearest 30 = .ok (.iload_n 2, 1) := by decide +kernel
theorem dX0_nearest_31 : decode cX0_nearest 31 = .ok (.ireturn, 1) := by decide +kernel
theorem dX0_rank_0 : decode cX0_rank 0 = .ok (.aload_n 0, 1) := by decide +kernel
theorem dX0_rank_1 : decode cX0_rank 1 = .ok (.iload_n 1, 1) := by decide +kernel
theorem dX0_rank_2 : decode cX0_rank 2 = .ok (.iload_n 2, 1) := by decide +kernel
theorem dX0_rank_3 : decode cX0_rank 3 = .ok (.invokevirtual 76, 3) := by decide +kernel
theorem dX0_rank_6 : decode cX0_rank 6 = .ok (.aload_n 0, 1) := by decide +kernel
theorem dX0_rank_7 : decode cX0_rank 7 = .ok (.iload_n 1, 1) := by decide +kernel
theorem dX0_rank_8 : decode cX0_rank 8 = .ok (.iload_n 2, 1) := by decide +kernel
theorem dX0_rank_9 : decode cX0_rank 9 = .ok (.invokevirtual 80, 3) := by decide +kernel
theorem dX0_rank_12 : decode cX0_rank 12 = .ok (.istore_n 3, 1) := by decide +kernel
theorem dX0_rank_13 : decode cX0_rank 13 = .ok (.iconst 0, 1) := by decide +kernel
theorem dX0_rank_14 : decode cX0_rank 14 = .ok (.istore 4, 2) := by decide +kernel
theorem dX0_rank_16 : decode cX0_rank 16 = .ok (.iconst 0, 1) := by decide +kernel
theorem dX0_rank_17 : decode cX0_rank 17 = .ok (.istore 5, 2) := by decide +kernel
theorem dX0_rank_19 : decode cX0_rank 19 = .ok (.iload 5, 2) := by decide +kernel
theorem dX0_rank_21 : decode cX0_rank 21 = .ok (.bipush 12, 2) := by decide +kernel
theorem dX0_rank_23 : decode cX0_rank 23 = .ok (.if_icmp .ge 61, 3) := by decide +kernel
theorem dX0_rank_26 : decode cX0_rank 26 = .ok (.iload 5, 2) := by decide +kernel
theorem dX0_rank_28 : decode cX0_rank 28 = .ok (.iconst 1, 1) := by decide +kernel
theorem dX0_rank_29 : decode cX0_rank 29 = .ok (.iadd, 1) := by decide +kernel
theorem dX0_rank_30 : decode cX0_rank 30 = .ok (.istore 6, 2) := by decide +kernel
theorem dX0_rank_32 : decode cX0_rank 32 = .ok (.iload 6, 2) := by decide +kernel
theorem dX0_rank_34 : decode cX0_rank 34 = .ok (.bipush 12, 2) := by decide +kernel
theorem dX0_rank_36 : decode cX0_rank 36 = .ok (.if_icmp .ge 42, 3) := by decide +kernel
theorem dX0_rank_39 : decode cX0_rank 39 = .ok (.aload_n 0, 1) := by decide +kernel
theorem dX0_rank_40 : decode cX0_rank 40 = .ok (.iload 5, 2) := by decide +kernel
theorem dX0_rank_42 : decode cX0_rank 42 = .ok (.invokevirtual 46, 3) := by decide +kernel
theorem dX0_rank_45 : decode cX0_rank 45 = .ok (.ifCond .eq 27, 3) := by decide +kernel
theorem dX0_rank_48 : decode cX0_rank 48 = .ok (.aload_n 0, 1) := by decide +kernel
theorem dX0_rank_49 : decode cX0_rank 49 = .ok (.iload 6, 2) := by decide +kernel
theorem dX0_rank_51 : decode cX0_rank 51 = .ok (.invokevirtual 46, 3) := by decide +kernel
theorem dX0_rank_54 : decode cX0_rank 54 = .ok (.ifCond .eq 18, 3) := by decide +kernel
theorem dX0_rank_57 : decode cX0_rank 57 = .ok (.aload_n 0, 1) := by decide +kernel
theorem dX0_rank_58 : decode cX0_rank 58 = .ok (.iload 5, 2) := by decide +kernel
theorem dX0_rank_60 : decode cX0_rank 60 = .ok (.iload 6, 2) := by decide +kernel
theorem dX0_rank_62 : decode cX0_rank 62 = .ok (.invokevirtual 80, 3) := by decide +kernel
theorem dX0_rank_65 : decode cX0_rank 65 = .ok (.iload_n 3, 1) := by decide +kernel
theorem dX0_rank_66 : decode cX0_rank 66 = .ok (.if_icmp .ge 6, 3) := by decide +kernel
theorem dX0_rank_69 : decode cX0_rank 69 = .ok (.iinc 4 1, 3) := by decide +kernel
theorem dX0_rank_72 : decode cX0_rank 72 = .ok (.iinc 6 1, 3) := by decide +kernel
theorem dX0_rank_75 : decode cX0_rank 75 = .ok (.goto (-43), 3) := by decide +kernel
theorem dX0_rank_78 : decode cX0_rank 78 = .ok (.iinc 5 1, 3) := by decide +kernel
theorem dX0_rank_81 : decode cX0_rank 81 = .ok (.goto (-62), 3) := by decide +kernel
theorem dX0_rank_84 : decode cX0_rank 84 = .ok (.iload 4, 2) := by decide +kernel
theorem dX0_rank_86 : decode cX0_rank 86 = .ok (.ireturn, 1) := by decide +kernel
theorem dX0_isIn_0 : decode cX0_isIn 0 = .ok (.aload_n 0, 1) := by decide +kernel
theorem dX0_isIn_1 : decode cX0_isIn 1 = .ok (.iload_n 1, 1) := by decide +kernel
theorem dX0_isIn_2 : decode cX0_isIn 2 = .ok (.iload_n 2, 1) := by decide +kernel
theorem dX0_isIn_3 : decode cX0_isIn 3 = .ok (.invokevirtual 76, 3) := by decide +kernel
theorem dX0_isIn_6 : decode cX0_isIn 6 = .ok (.iload_n 3, 1) := by decide +kernel
theorem dX0_isIn_7 : decode cX0_isIn 7 = .ok (.invokestatic 112, 3) := by decide +kernel
theorem dX0_isIn_10 : decode cX0_isIn 10 = .ok (.aload_n 0, 1) := by decide +kernel
theorem dX0_isIn_11 : decode cX0_isIn 11 = .ok (.iload_n 1, 1) := by decide +kernel
theorem dX0_isIn_12 : decode cX0_isIn 12 = .ok (.iload_n 2, 1) := by decide +kernel
theorem dX0_isIn_13 : decode cX0_isIn 13 = .ok (.invokevirtual 80, 3) := by decide +kernel
theorem dX0_isIn_16 : decode cX0_isIn 16 = .ok (.iload_n 3, 1) := by decide +kernel
theorem dX0_isIn_17 : decode cX0_isIn 17 = .ok (.iload 4, 2) := by decide +kernel
theorem dX0_isIn_19 : decode cX0_isIn 19 = .ok (.invokestatic 115, 3) := by decide +kernel
theorem dX0_isIn_22 : decode cX0_isIn 22 = .ok (.invokestatic 119, 3) := by decide +kernel
theorem dX0_isIn_25 : decode cX0_isIn 25 = .ok (.if_icmp .gt 7, 3) := by decide +kernel
theorem dX0_isIn_28 : decode cX0_isIn 28 = .ok (.iconst 1, 1) := by decide +kernel
theorem dX0_isIn_29 : decode cX0_isIn 29 = .ok (.goto 4, 3) := by decide +kernel
theorem dX0_isIn_32 : decode cX0_isIn 32 = .ok (.iconst 0, 1) := by decide +kernel
theorem dX0_isIn_33 : decode cX0_isIn 33 = .ok (.ireturn, 1) := by decide +kernel
theorem dX0_root_0 : decode cX0_root 0 = .ok (.iload_n 1, 1) := by decide +kernel
theorem dX0_root_1 : decode cX0_root 1 = .ok (.invokestatic 112, 3) := by decide +kernel
theorem dX0_root_4 : decode cX0_root 4 = .ok (.iload_n 1, 1) := by decide +kernel
theorem dX0_root_5 : decode cX0_root 5 = .ok (.iload_n 2, 1) := by decide +kernel
theorem dX0_root_6 : decode cX0_root 6 = .ok (.invokestatic 115, 3) := by decide +kernel
end
section
theorem dX0_root_9 : decode cX0_root 9 = .ok (.invokestatic 122, 3) := by decide +kernel
theorem dX0_root_12 : decode cX0_root 12 = .ok (.invokestatic 126, 3) := by decide +kernel
theorem dX0_root_15 : decode cX0_root 15 = .ok (.dreturn, 1) := by decide +kernel
theorem dX0_rootBits_0 : decode cX0_rootBits 0 = .ok (.iload_n 1, 1) := by decide +kernel
theorem dX0_rootBits_1 : decode cX0_rootBits 1 = .ok (.invokestatic 112, 3) := by decide +kernel
theorem dX0_rootBits_4 : decode cX0_rootBits 4 = .ok (.iload_n 1, 1) := by decide +kernel
theorem dX0_rootBits_5 : decode cX0_rootBits 5 = .ok (.iload_n 2, 1) := by decide +kernel
theorem dX0_rootBits_6 : decode cX0_rootBits 6 = .ok (.invokestatic 115, 3) := by decide +kernel
theorem dX0_rootBits_9 : decode cX0_rootBits 9 = .ok (.invokestatic 122, 3) := by decide +kernel
theorem dX0_rootBits_12 : decode cX0_rootBits 12 = .ok (.lreturn, 1) := by decide +kernel
theorem dX0_rootGrains_0 : decode cX0_rootGrains 0 = .ok (.iload_n 1, 1) := by decide +kernel
theorem dX0_rootGrains_1 : decode cX0_rootGrains 1 = .ok (.invokestatic 112, 3) := by decide +kernel
theorem dX0_rootGrains_4 : decode cX0_rootGrains 4 = .ok (.iload_n 1, 1) := by decide +kernel
theorem dX0_rootGrains_5 : decode cX0_rootGrains 5 = .ok (.iload_n 2, 1) := by decide +kernel
theorem dX0_rootGrains_6 : decode cX0_rootGrains 6 = .ok (.invokestatic 115, 3) := by decide +kernel
theorem dX0_rootGrains_9 : decode cX0_rootGrains 9 = .ok (.invokestatic 119, 3) := by decide +kernel
theorem dX0_rootGrains_12 : decode cX0_rootGrains 12 = .ok (.ireturn, 1) := by decide +kernel
theorem dX0_wholeRoot_0 : decode cX0_wholeRoot 0 = .ok (.iload_n 1, 1) := by decide +kernel
theorem dX0_wholeRoot_1 : decode cX0_wholeRoot 1 = .ok (.invokestatic 112, 3) := by decide +kernel
theorem dX0_wholeRoot_4 : decode cX0_wholeRoot 4 = .ok (.iload_n 1, 1) := by decide +kernel
theorem dX0_wholeRoot_5 : decode cX0_wholeRoot 5 = .ok (.invokestatic 130, 3) := by decide +kernel
theorem dX0_wholeRoot_8 : decode cX0_wholeRoot 8 = .ok (.ireturn, 1) := by decide +kernel
theorem dX0_isNearest_0 : decode cX0_isNearest 0 = .ok (.iload_n 1, 1) := by decide +kernel
theorem dX0_isNearest_1 : decode cX0_isNearest 1 = .ok (.invokestatic 112, 3) := by decide +kernel
theorem dX0_isNearest_4 : decode cX0_isNearest 4 = .ok (.iload_n 1, 1) := by decide +kernel
theorem dX0_isNearest_5 : decode cX0_isNearest 5 = .ok (.iload_n 2, 1) := by decide +kernel
theorem dX0_isNearest_6 : decode cX0_isNearest 6 = .ok (.invokestatic 115, 3) := by decide +kernel
theorem dX0_isNearest_9 : decode cX0_isNearest 9 = .ok (.istore_n 3, 1) := by decide +kernel
theorem dX0_isNearest_10 : decode cX0_isNearest 10 = .ok (.iload_n 3, 1) := by decide +kernel
theorem dX0_isNearest_11 : decode cX0_isNearest 11 = .ok (.invokestatic 122, 3) := by decide +kernel
theorem dX0_isNearest_14 : decode cX0_isNearest 14 = .ok (.lstore 4, 2) := by decide +kernel
theorem dX0_isNearest_16 : decode cX0_isNearest 16 = .ok (.iload_n 3, 1) := by decide +kernel
theorem dX0_isNearest_17 : decode cX0_isNearest 17 = .ok (.ifCond .eq 10, 3) := by decide +kernel
theorem dX0_isNearest_20 : decode cX0_isNearest 20 = .ok (.lload 4, 2) := by decide +kernel
theorem dX0_isNearest_22 : decode cX0_isNearest 22 = .ok (.lconst 0, 1) := by decide +kernel
theorem dX0_isNearest_23 : decode cX0_isNearest 23 = .ok (.lcmp, 1) := by decide +kernel
theorem dX0_isNearest_24 : decode cX0_isNearest 24 = .ok (.ifCond .ne 20, 3) := by decide +kernel
theorem dX0_isNearest_27 : decode cX0_isNearest 27 = .ok (.iload_n 3, 1) := by decide +kernel
theorem dX0_isNearest_28 : decode cX0_isNearest 28 = .ok (.ifCond .ne 14, 3) := by decide +kernel
theorem dX0_isNearest_31 : decode cX0_isNearest 31 = .ok (.lload 4, 2) := by decide +kernel
theorem dX0_isNearest_33 : decode cX0_isNearest 33 = .ok (.lconst 0, 1) := by decide +kernel
theorem dX0_isNearest_34 : decode cX0_isNearest 34 = .ok (.lcmp, 1) := by decide +kernel
theorem dX0_isNearest_35 : decode cX0_isNearest 35 = .ok (.ifCond .ne 7, 3) := by decide +kernel
theorem dX0_isNearest_38 : decode cX0_isNearest 38 = .ok (.iconst 1, 1) := by decide +kernel
theorem dX0_isNearest_39 : decode cX0_isNearest 39 = .ok (.goto 4, 3) := by decide +kernel
theorem dX0_isNearest_42 : decode cX0_isNearest 42 = .ok (.iconst 0, 1) := by decide +kernel
theorem dX0_isNearest_43 : decode cX0_isNearest 43 = .ok (.ireturn, 1) := by decide +kernel
theorem dX0_isNearest_44 : decode cX0_isNearest 44 = .ok (.ldc2_w 133, 3) := by decide +kernel
theorem dX0_isNearest_47 : decode cX0_isNearest 47 = .ok (.lload 4, 2) := by decide +kernel
theorem dX0_isNearest_49 : decode cX0_isNearest 49 = .ok (.invokestatic 96, 3) := by decide +kernel
theorem dX0_isNearest_52 : decode cX0_isNearest 52 = .ok (.lmul, 1) := by decide +kernel
theorem dX0_isNearest_53 : decode cX0_isNearest 53 = .ok (.lstore 6, 2) := by decide +kernel
theorem dX0_isNearest_55 : decode cX0_isNearest 55 = .ok (.lload 4, 2) := by decide +kernel
theorem dX0_isNearest_57 : decode cX0_isNearest 57 = .ok (.invokestatic 99, 3) := by decide +kernel
theorem dX0_isNearest_60 : decode cX0_isNearest 60 = .ok (.iconst 1, 1) := by decide +kernel
theorem dX0_isNearest_61 : decode cX0_isNearest 61 = .ok (.iadd, 1) := by decide +kernel
theorem dX0_isNearest_62 : decode cX0_isNearest 62 = .ok (.istore 8, 2) := by decide +kernel
theorem dX0_isNearest_64 : decode cX0_isNearest 64 = .ok (.lload 6, 2) := by decide +kernel
theorem dX0_isNearest_66 : decode cX0_isNearest 66 = .ok (.lconst 1, 1) := by decide +kernel
theorem dX0_isNearest_67 : decode cX0_isNearest 67 = .ok (.lsub, 1) := by decide +kernel
theorem dX0_isNearest_68 : decode cX0_isNearest 68 = .ok (.iload 8, 2) := by decide +kernel
theorem dX0_isNearest_70 : decode cX0_isNearest 70 = .ok (.iload_n 3, 1) := by decide +kernel
theorem dX0_isNearest_71 : decode cX0_isNearest 71 = .ok (.invokestatic 103, 3) := by decide +kernel
theorem dX0_isNearest_74 : decode cX0_isNearest 74 = .ok (.ifCond .ge 20, 3) := by decide +kernel
theorem dX0_isNearest_77 : decode cX0_isNearest 77 = .ok (.lload 6, 2) := by decide +kernel
theorem dX0_isNearest_79 : decode cX0_isNearest 79 = .ok (.lconst 1, 1) := by decide +kernel
theorem dX0_isNearest_80 : decode cX0_isNearest 80 = .ok (.ladd, 1) := by decide +kernel
theorem dX0_isNearest_81 : decode cX0_isNearest 81 = .ok (.iload 8, 2) := by decide +kernel
theorem dX0_isNearest_83 : decode cX0_isNearest 83 = .ok (.iload_n 3, 1) := by decide +kernel
theorem dX0_isNearest_84 : decode cX0_isNearest 84 = .ok (.invokestatic 103, 3) := by decide +kernel
theorem dX0_isNearest_87 : decode cX0_isNearest 87 = .ok (.ifCond .le 7, 3) := by decide +kernel
theorem dX0_isNearest_90 : decode cX0_isNearest 90 = .ok (.iconst 1, 1) := by decide +kernel
theorem dX0_isNearest_91 : decode cX0_isNearest 91 = .ok (.goto 4, 3) := by decide +kernel
theorem dX0_isNearest_94 : decode cX0_isNearest 94 = .ok (.iconst 0, 1) := by decide +kernel
theorem dX0_isNearest_95 : decode cX0_isNearest 95 = .ok (.ireturn, 1) := by decide +kernel
theorem dX0_isHalved_0 : decode cX0_isHalved 0 = .ok (.iload_n 1, 1) := by decide +kernel
theorem dX0_isHalved_1 : decode cX0_isHalved 1 = .ok (.invokestatic 112, 3) := by decide +kernel
theorem dX0_isHalved_4 : decode cX0_isHalved 4 = .ok (.iload_n 1, 1) := by decide +kernel
theorem dX0_isHalved_5 : decode cX0_isHalved 5 = .ok (.iconst 1, 1) := by decide +kernel
theorem dX0_isHalved_6 : decode cX0_isHalved 6 = .ok (.invokestatic 115, 3) := by decide +kernel
theorem dX0_isHalved_9 : decode cX0_isHalved 9 = .ok (.invokestatic 122, 3) := by decide +kernel
theorem dX0_isHalved_12 : decode cX0_isHalved 12 = .ok (.invokestatic 88, 3) := by decide +kernel
theorem dX0_isHalved_15 : decode cX0_isHalved 15 = .ok (.iload_n 1, 1) := by decide +kernel
theorem dX0_isHalved_16 : decode cX0_isHalved 16 = .ok (.iconst 0, 1) := by decide +kernel
theorem dX0_isHalved_17 : decode cX0_isHalved 17 = .ok (.invokestatic 115, 3) := by decide +kernel
theorem dX0_isHalved_20 : decode cX0_isHalved 20 = .ok (.invokestatic 122, 3) := by decide +kernel
theorem dX0_isHalved_23 : decode cX0_isHalved 23 = .ok (.lcmp, 1) := by decide +kernel
theorem dX0_isHalved_24 : decode cX0_isHalved 24 = .ok (.ifCond .ne 7, 3) := by decide +kernel
theorem dX0_isHalved_27 : decode cX0_isHalved 27 = .ok (.iconst 1, 1) := by decide +kernel
theorem dX0_isHalved_28 : decode cX0_isHalved 28 = .ok (.goto 4, 3) := by decide +kernel
theorem dX0_isHalved_31 : decode cX0_isHalved 31 = .ok (.iconst 0, 1) := by decide +kernel
theorem dX0_isHalved_32 : decode cX0_isHalved 32 = .ok (.ireturn, 1) := by decide +kernel
theorem dX0_between_0 : decode cX0_between 0 = .ok (.iload_n 1, 1) := by decide +kernel
theorem dX0_between_1 : decode cX0_between 1 = .ok (.invokestatic 112, 3) := by decide +kernel
theorem dX0_between_4 : decode cX0_between 4 = .ok (.iload_n 2, 1) := by decide +kernel
theorem dX0_between_5 : decode cX0_between 5 = .ok (.invokestatic 112, 3) := by decide +kernel
theorem dX0_between_8 : decode cX0_between 8 = .ok (.iload_n 2, 1) := by decide +kernel
theorem dX0_between_9 : decode cX0_between 9 = .ok (.iload_n 1, 1) := by decide +kernel
theorem dX0_between_10 : decode cX0_between 10 = .ok (.if_icmp .gt 5, 3) := by decide +kernel
theorem dX0_between_13 : decode cX0_between 13 = .ok (.iconst 0, 1) := by decide +kernel
theorem dX0_between_14 : decode cX0_between 14 = .ok (.ireturn, 1) := by decide +kernel
theorem dX0_between_15 : decode cX0_between 15 = .ok (.iload_n 3, 1) := by decide +kernel
theorem dX0_between_16 : decode cX0_between 16 = .ok (.ifCond .eq 19, 3) := by decide +kernel
theorem dX0_between_19 : decode cX0_between 19 = .ok (.iload_n 2, 1) := by decide +kernel
theorem dX0_between_20 : decode cX0_between 20 = .ok (.iconst 2, 1) := by decide +kernel
theorem dX0_between_21 : decode cX0_between 21 = .ok (.ishr, 1) := by decide +kernel
theorem dX0_between_22 : decode cX0_between 22 = .ok (.invokestatic 130, 3) := by decide +kernel
theorem dX0_between_25 : decode cX0_between 25 = .ok (.iload_n 1, 1) := by decide +kernel
theorem dX0_between_26 : decode cX0_between 26 = .ok (.iconst 2, 1) := by decide +kernel
theorem dX0_between_27 : decode cX0_between 27 = .ok (.ishr, 1) := by decide +kernel
theorem dX0_between_28 : decode cX0_between 28 = .ok (.invokestatic 130, 3) := by decide +kernel
theorem dX0_between_31 : decode cX0_between 31 = .ok (.isub, 1) := by decide +kernel
theorem dX0_between_32 : decode cX0_between 32 = .ok (.goto 12, 3) := by decide +kernel
theorem dX0_between_35 : decode cX0_between 35 = .ok (.iload_n 2, 1) := by decide +kernel
theorem dX0_between_36 : decode cX0_between 36 = .ok (.invokestatic 130, 3) := by decide +kernel
theorem dX0_between_39 : decode cX0_between 39 = .ok (.iload_n 1, 1) := by decide +kernel
theorem dX0_between_40 : decode cX0_between 40 = .ok (.invokestatic 130, 3) := by decide +kernel
theorem dX0_between_43 : decode cX0_between 43 = .ok (.isub, 1) := by decide +kernel
theorem dX0_between_44 : decode cX0_between 44 = .ok (.ireturn, 1) := by decide +kernel
theorem dX0_join_0 : decode cX0_join 0 = .ok (.iload_n 1, 1) := by decide +kernel
theorem dX0_join_1 : decode cX0_join 1 = .ok (.invokestatic 31, 3) := by decide +kernel
theorem dX0_join_4 : decode cX0_join 4 = .ok (.aload_n 0, 1) := by decide +kernel
theorem dX0_join_5 : decode cX0_join 5 = .ok (.iload_n 1, 1) := by decide +kernel
theorem dX0_join_6 : decode cX0_join 6 = .ok (.invokevirtual 53, 3) := by decide +kernel
theorem dX0_join_9 : decode cX0_join 9 = .ok (.aload_n 0, 1) := by decide +kernel
theorem dX0_join_10 : decode cX0_join 10 = .ok (.getfield 23, 3) := by decide +kernel
theorem dX0_join_13 : decode cX0_join 13 = .ok (.ifCond .lt 12, 3) := by decide +kernel
theorem dX0_join_16 : decode cX0_join 16 = .ok (.aload_n 0, 1) := by decide +kernel
theorem dX0_join_17 : decode cX0_join 17 = .ok (.getfield 23, 3) := by decide +kernel
theorem dX0_join_20 : decode cX0_join 20 = .ok (.bipush 12, 2) := by decide +kernel
theorem dX0_join_22 : decode cX0_join 22 = .ok (.if_icmp .lt 13, 3) := by decide +kernel
theorem dX0_join_25 : decode cX0_join 25 = .ok (.new 59, 3) := by decide +kernel
theorem dX0_join_28 : decode cX0_join 28 = .ok (.dup, 1) := by decide +kernel
theorem dX0_join_29 : decode cX0_join 29 = .ok (.ldc 135, 2) := by decide +kernel
theorem dX0_join_31 : decode cX0_join 31 = .ok (.invokespecial 63, 3) := by decide +kernel
theorem dX0_join_34 : decode cX0_join 34 = .ok (.athrow, 1) := by decide +kernel
theorem dX0_join_35 : decode cX0_join 35 = .ok (.aload_n 0, 1) := by decide +kernel
theorem dX0_join_36 : decode cX0_join 36 = .ok (.getfield 20, 3) := by decide +kernel
theorem dX0_join_39 : decode cX0_join 39 = .ok (.aload_n 0, 1) := by decide +kernel
theorem dX0_join_40 : decode cX0_join 40 = .ok (.getfield 23, 3) := by decide +kernel
theorem dX0_join_43 : decode cX0_join 43 = .ok (.iload_n 1, 1) := by decide +kernel
theorem dX0_join_44 : decode cX0_join 44 = .ok (.iastore, 1) := by decide +kernel
theorem dX0_join_45 : decode cX0_join 45 = .ok (.aload_n 0, 1) := by decide +kernel
theorem dX0_join_46 : decode cX0_join 46 = .ok (.dup, 1) := by decide +kernel
theorem dX0_join_47 : decode cX0_join 47 = .ok (.getfield 23, 3) := by decide +kernel
theorem dX0_join_50 : decode cX0_join 50 = .ok (.iconst 1, 1) := by decide +kernel
theorem dX0_join_51 : decode cX0_join 51 = .ok (.iadd, 1) := by decide +kernel
theorem dX0_join_52 : decode cX0_join 52 = .ok (.putfield 23, 3) := by decide +kernel
theorem dX0_join_55 : decode cX0_join 55 = .ok (.aload_n 0, 1) := by decide +kernel
theorem dX0_join_56 : decode cX0_join 56 = .ok (.getfield 23, 3) := by decide +kernel
theorem dX0_join_59 : decode cX0_join 59 = .ok (.ireturn, 1) := by decide +kernel
theorem dX0_unjoin_0 : decode cX0_unjoin 0 = .ok (.aload_n 0, 1) := by decide +kernel
theorem dX0_unjoin_1 : decode cX0_unjoin 1 = .ok (.getfield 23, 3) := by decide +kernel
theorem dX0_unjoin_4 : decode cX0_unjoin 4 = .ok (.ifCond .gt 13, 3) := by decide +kernel
theorem dX0_unjoin_7 : decode cX0_unjoin 7 = .ok (.new 59, 3) := by decide +kernel
theorem dX0_unjoin_10 : decode cX0_unjoin 10 = .ok (.dup, 1) := by decide +kernel
theorem dX0_unjoin_11 : decode cX0_unjoin 11 = .ok (.ldc 137, 2) := by decide +kernel
theorem dX0_unjoin_13 : decode cX0_unjoin 13 = .ok (.invokespecial 63, 3) := by decide +kernel
theorem dX0_unjoin_16 : decode cX0_unjoin 16 = .ok (.athrow, 1) := by decide +kernel
theorem dX0_unjoin_17 : decode cX0_unjoin 17 = .ok (.aload_n 0, 1) := by decide +kernel
theorem dX0_unjoin_18 : decode cX0_unjoin 18 = .ok (.dup, 1) := by decide +kernel
theorem dX0_unjoin_19 : decode cX0_unjoin 19 = .ok (.getfield 23, 3) := by decide +kernel
theorem dX0_unjoin_22 : decode cX0_unjoin 22 = .ok (.iconst 1, 1) := by decide +kernel
theorem dX0_unjoin_23 : decode cX0_unjoin 23 = .ok (.isub, 1) := by decide +kernel
theorem dX0_unjoin_24 : decode cX0_unjoin 24 = .ok (.putfield 23, 3) := by decide +kernel
theorem dX0_unjoin_27 : decode cX0_unjoin 27 = .ok (.aload_n 0, 1) := by decide +kernel
theorem dX0_unjoin_28 : decode cX0_unjoin 28 = .ok (.aload_n 0, 1) := by decide +kernel
theorem dX0_unjoin_29 : decode cX0_unjoin 29 = .ok (.getfield 23, 3) := by decide +kernel
theorem dX0_unjoin_32 : decode cX0_unjoin 32 = .ok (.invokevirtual 139, 3) := by decide +kernel
theorem dX0_unjoin_35 : decode cX0_unjoin 35 = .ok (.ireturn, 1) := by decide +kernel
theorem dX0_ringAt_0 : decode cX0_ringAt 0 = .ok (.iload_n 1, 1) := by decide +kernel
theorem dX0_ringAt_1 : decode cX0_ringAt 1 = .ok (.ifCond .lt 11, 3) := by decide +kernel
theorem dX0_ringAt_4 : decode cX0_ringAt 4 = .ok (.iload_n 1, 1) := by decide +kernel
theorem dX0_ringAt_5 : decode cX0_ringAt 5 = .ok (.aload_n 0, 1) := by decide +kernel
theorem dX0_ringAt_6 : decode cX0_ringAt 6 = .ok (.getfield 23, 3) := by decide +kernel
theorem dX0_ringAt_9 : decode cX0_ringAt 9 = .ok (.if_icmp .lt 13, 3) := by decide +kernel
theorem dX0_ringAt_12 : decode cX0_ringAt 12 = .ok (.new 142, 3) := by decide +kernel
theorem dX0_ringAt_15 : decode cX0_ringAt 15 = .ok (.dup, 1) := by decide +kernel
theorem dX0_ringAt_16 : decode cX0_ringAt 16 = .ok (.ldc 144, 2) := by decide +kernel
theorem dX0_ringAt_18 : decode cX0_ringAt 18 = .ok (.invokespecial 146, 3) := by decide +kernel
theorem dX0_ringAt_21 : decode cX0_ringAt 21 = .ok (.athrow, 1) := by decide +kernel
theorem dX0_ringAt_22 : decode cX0_ringAt 22 = .ok (.aload_n 0, 1) := by decide +kernel
theorem dX0_ringAt_23 : decode cX0_ringAt 23 = .ok (.iload_n 1, 1) := by decide +kernel
theorem dX0_ringAt_24 : decode cX0_ringAt 24 = .ok (.invokevirtual 139, 3) := by decide +kernel
theorem dX0_ringAt_27 : decode cX0_ringAt 27 = .ok (.ireturn, 1) := by decide +kernel
theorem dX0_around_0 : decode cX0_around 0 = .ok (.iconst 0, 1) := by decide +kernel
theorem dX0_around_1 : decode cX0_around 1 = .ok (.istore_n 1, 1) := by decide +kernel
theorem dX0_around_2 : decode cX0_around 2 = .ok (.iconst 0, 1) := by decide +kernel
theorem dX0_around_3 : decode cX0_around 3 = .ok (.istore_n 2, 1) := by decide +kernel
theorem dX0_around_4 : decode cX0_around 4 = .ok (.iload_n 2, 1) := by decide +kernel
theorem dX0_around_5 : decode cX0_around 5 = .ok (.aload_n 0, 1) := by decide +kernel
theorem dX0_around_6 : decode cX0_around 6 = .ok (.getfield 23, 3) := by decide +kernel
theorem dX0_around_9 : decode cX0_around 9 = .ok (.if_icmp .ge 30, 3) := by decide +kernel
theorem dX0_around_12 : decode cX0_around 12 = .ok (.iload_n 1, 1) := by decide +kernel
theorem dX0_around_13 : decode cX0_around 13 = .ok (.aload_n 0, 1) := by decide +kernel
theorem dX0_around_14 : decode cX0_around 14 = .ok (.aload_n 0, 1) := by decide +kernel
theorem dX0_around_15 : decode cX0_around 15 = .ok (.iload_n 2, 1) := by decide +kernel
theorem dX0_around_16 : decode cX0_around 16 = .ok (.invokevirtual 139, 3) := by decide +kernel
theorem dX0_around_19 : decode cX0_around 19 = .ok (.aload_n 0, 1) := by decide +kernel
theorem dX0_around_20 : decode cX0_around 20 = .ok (.aload_n 0, 1) := by decide +kernel
theorem dX0_around_21 : decode cX0_around 21 = .ok (.iload_n 2, 1) := by decide +kernel
theorem dX0_around_22 : decode cX0_around 22 = .ok (.invokevirtual 147, 3) := by decide +kernel
theorem dX0_around_25 : decode cX0_around 25 = .ok (.invokevirtual 139, 3) := by decide +kernel
theorem dX0_around_28 : decode cX0_around 28 = .ok (.invokevirtual 80, 3) := by decide +kernel
theorem dX0_around_31 : decode cX0_around 31 = .ok (.iadd, 1) := by decide +kernel
theorem dX0_around_32 : decode cX0_around 32 = .ok (.istore_n 1, 1) := by decide +kernel
theorem dX0_around_33 : decode cX0_around 33 = .ok (.iinc 2 1, 3) := by decide +kernel
theorem dX0_around_36 : decode cX0_around 36 = .ok (.goto (-32), 3) := by decide +kernel
theorem dX0_around_39 : decode cX0_around 39 = .ok (.iload_n 1, 1) := by decide +kernel
theorem dX0_around_40 : decode cX0_around 40 = .ok (.ireturn, 1) := by decide +kernel
theorem dX0_doubleArea_0 : decode cX0_doubleArea 0 = .ok (.iconst 0, 1) := by decide +kernel
theorem dX0_doubleArea_1 : decode cX0_doubleArea 1 = .ok (.istore_n 1, 1) := by decide +kernel
theorem dX0_doubleArea_2 : decode cX0_doubleArea 2 = .ok (.iconst 0, 1) := by decide +kernel
theorem dX0_doubleArea_3 : decode cX0_doubleArea 3 = .ok (.istore_n 2, 1) := by decide +kernel
theorem dX0_doubleArea_4 : decode cX0_doubleArea 4 = .ok (.iload_n 2, 1) := by decide +kernel
theorem dX0_doubleArea_5 : decode cX0_doubleArea 5 = .ok (.aload_n 0, 1) := by decide +kernel
theorem dX0_doubleArea_6 : decode cX0_doubleArea 6 = .ok (.getfield 23, 3) := by decide +kernel
theorem dX0_doubleArea_9 : decode cX0_doubleArea 9 = .ok (.if_icmp .ge 54, 3) := by decide +kernel
theorem dX0_doubleArea_12 : decode cX0_doubleArea 12 = .ok (.aload_n 0, 1) := by decide +kernel
theorem dX0_doubleArea_13 : decode cX0_doubleArea 13 = .ok (.iload_n 2, 1) := by decide +kernel
theorem dX0_doubleArea_14 : decode cX0_doubleArea 14 = .ok (.invokevirtual 139, 3) := by decide +kernel
theorem dX0_doubleArea_17 : decode cX0_doubleArea 17 = .ok (.istore_n 3, 1) := by decide +kernel
theorem dX0_doubleArea_18 : decode cX0_doubleArea 18 = .ok (.aload_n 0, 1) := by decide +kernel
theorem dX0_doubleArea_19 : decode cX0_doubleArea 19 = .ok (.aload_n 0, 1) := by decide +kernel
theorem dX0_doubleArea_20 : decode cX0_doubleArea 20 = .ok (.iload_n 2, 1) := by decide +kernel
theorem dX0_doubleArea_21 : decode cX0_doubleArea 21 = .ok (.invokevirtual 147, 3) := by decide +kernel
theorem dX0_doubleArea_24 : decode cX0_doubleArea 24 = .ok (.invokevirtual 139, 3) := by decide +kernel
theorem dX0_doubleArea_27 : decode cX0_doubleArea 27 = .ok (.istore 4, 2) := by decide +kernel
theorem dX0_doubleArea_29 : decode cX0_doubleArea 29 = .ok (.iload_n 1, 1) := by decide +kernel
theorem dX0_doubleArea_30 : decode cX0_doubleArea 30 = .ok (.aload_n 0, 1) := by decide +kernel
theorem dX0_doubleArea_31 : decode cX0_doubleArea 31 = .ok (.iload_n 3, 1) := by decide +kernel
theorem dX0_doubleArea_32 : decode cX0_doubleArea 32 = .ok (.invokevirtual 69, 3) := by decide +kernel
theorem dX0_doubleArea_35 : decode cX0_doubleArea 35 = .ok (.aload_n 0, 1) := by decide +kernel
theorem dX0_doubleArea_36 : decode cX0_doubleArea 36 = .ok (.iload 4, 2) := by decide +kernel
theorem dX0_doubleArea_38 : decode cX0_doubleArea 38 = .ok (.invokevirtual 73, 3) := by decide +kernel
theorem dX0_doubleArea_41 : decode cX0_doubleArea 41 = .ok (.imul, 1) := by decide +kernel
theorem dX0_doubleArea_42 : decode cX0_doubleArea 42 = .ok (.aload_n 0, 1) := by decide +kernel
theorem dX0_doubleArea_43 : decode cX0_doubleArea 43 = .ok (.iload 4, 2) := by decide +kernel
theorem dX0_doubleArea_45 : decode cX0_doubleArea 45 = .ok (.invokevirtual 69, 3) := by decide +kernel
theorem dX0_doubleArea_48 : decode cX0_doubleArea 48 = .ok (.aload_n 0, 1) := by decide +kernel
theorem dX0_doubleArea_49 : decode cX0_doubleArea 49 = .ok (.iload_n 3, 1) := by decide +kernel
theorem dX0_doubleArea_50 : decode cX0_doubleArea 50 = .ok (.invokevirtual 73, 3) := by decide +kernel
theorem dX0_doubleArea_53 : decode cX0_doubleArea 53 = .ok (.imul, 1) := by decide +kernel
theorem dX0_doubleArea_54 : decode cX0_doubleArea 54 = .ok (.isub, 1) := by decide +kernel
theorem dX0_doubleArea_55 : decode cX0_doubleArea 55 = .ok (.iadd, 1) := by decide +kernel
theorem dX0_doubleArea_56 : decode cX0_doubleArea 56 = .ok (.istore_n 1, 1) := by decide +kernel
theorem dX0_doubleArea_57 : decode cX0_doubleArea 57 = .ok (.iinc 2 1, 3) := by decide +kernel
theorem dX0_doubleArea_60 : decode cX0_doubleArea 60 = .ok (.goto (-56), 3) := by decide +kernel
theorem dX0_doubleArea_63 : decode cX0_doubleArea 63 = .ok (.iload_n 1, 1) := by decide +kernel
theorem dX0_doubleArea_64 : decode cX0_doubleArea 64 = .ok (.ireturn, 1) := by decide +kernel
theorem dX0_sideBits_0 : decode cX0_sideBits 0 = .ok (.aload_n 0, 1) := by decide +kernel
theorem dX0_sideBits_1 : decode cX0_sideBits 1 = .ok (.invokevirtual 150, 3) := by decide +kernel
theorem dX0_sideBits_4 : decode cX0_sideBits 4 = .ok (.invokestatic 154, 3) := by decide +kernel
theorem dX0_sideBits_7 : decode cX0_sideBits 7 = .ok (.istore_n 1, 1) := by decide +kernel
theorem dX0_sideBits_8 : decode cX0_sideBits 8 = .ok (.iload_n 1, 1) := by decide +kernel
theorem dX0_sideBits_9 : decode cX0_sideBits 9 = .ok (.invokestatic 159, 3) := by decide +kernel
theorem dX0_sideBits_12 : decode cX0_sideBits 12 = .ok (.ifCond .ne 13, 3) := by decide +kernel
theorem dX0_sideBits_15 : decode cX0_sideBits 15 = .ok (.new 59, 3) := by decide +kernel
theorem dX0_sideBits_18 : decode cX0_sideBits 18 = .ok (.dup, 1) := by decide +kernel
theorem dX0_sideBits_19 : decode cX0_sideBits 19 = .ok (.ldc 162, 2) := by decide +kernel
theorem dX0_sideBits_21 : decode cX0_sideBits 21 = .ok (.invokespecial 63, 3) := by decide +kernel
theorem dX0_sideBits_24 : decode cX0_sideBits 24 = .ok (.athrow, 1) := by decide +kernel
theorem dX0_sideBits_25 : decode cX0_sideBits 25 = .ok (.iload_n 1, 1) := by decide +kernel
theorem dX0_sideBits_26 : decode cX0_sideBits 26 = .ok (.iconst 0, 1) := by decide +kernel
theorem dX0_sideBits_27 : decode cX0_sideBits 27 = .ok (.invokestatic 115, 3) := by decide +kernel
theorem dX0_sideBits_30 : decode cX0_sideBits 30 = .ok (.invokestatic 122, 3) := by decide +kernel
theorem dX0_sideBits_33 : decode cX0_sideBits 33 = .ok (.lreturn, 1) := by decide +kernel
theorem dX0_checksum_0 : decode cX0_checksum 0 = .ok (.ldc2_w 164, 3) := by decide +kernel
theorem dX0_checksum_3 : decode cX0_checksum 3 = .ok (.lstore_n 1, 1) := by decide +kernel
theorem dX0_checksum_4 : decode cX0_checksum 4 = .ok (.iconst 0, 1) := by decide +kernel
theorem dX0_checksum_5 : decode cX0_checksum 5 = .ok (.istore_n 3, 1) := by decide +kernel
theorem dX0_checksum_6 : decode cX0_checksum 6 = .ok (.iload_n 3, 1) := by decide +kernel
theorem dX0_checksum_7 : decode cX0_checksum 7 = .ok (.bipush 12, 2) := by decide +kernel
theorem dX0_checksum_9 : decode cX0_checksum 9 = .ok (.if_icmp .ge 64, 3) := by decide +kernel
theorem dX0_checksum_12 : decode cX0_checksum 12 = .ok (.aload_n 0, 1) := by decide +kernel
theorem dX0_checksum_13 : decode cX0_checksum 13 = .ok (.iload_n 3, 1) := by decide +kernel
theorem dX0_checksum_14 : decode cX0_checksum 14 = .ok (.invokevirtual 46, 3) := by decide +kernel
theorem dX0_checksum_17 : decode cX0_checksum 17 = .ok (.ifCond .eq 50, 3) := by decide +kernel
theorem dX0_checksum_20 : decode cX0_checksum 20 = .ok (.ldc2_w 166, 3) := by decide +kernel
theorem dX0_checksum_23 : decode cX0_checksum 23 = .ok (.lload_n 1, 1) := by decide +kernel
theorem dX0_checksum_24 : decode cX0_checksum 24 = .ok (.lmul, 1) := by decide +kernel
theorem dX0_checksum_25 : decode cX0_checksum 25 = .ok (.iload_n 3, 1) := by decide +kernel
theorem dX0_checksum_26 : decode cX0_checksum 26 = .ok (.i2l, 1) := by decide +kernel
theorem dX0_checksum_27 : decode cX0_checksum 27 = .ok (.ladd, 1) := by decide +kernel
theorem dX0_checksum_28 : decode cX0_checksum 28 = .ok (.lconst 1, 1) := by decide +kernel
theorem dX0_checksum_29 : decode cX0_checksum 29 = .ok (.ladd, 1) := by decide +kernel
theorem dX0_checksum_30 : decode cX0_checksum 30 = .ok (.lstore_n 1, 1) := by decide +kernel
theorem dX0_checksum_31 : decode cX0_checksum 31 = .ok (.ldc2_w 166, 3) := by decide +kernel
theorem dX0_checksum_34 : decode cX0_checksum 34 = .ok (.lload_n 1, 1) := by decide +kernel
theorem dX0_checksum_35 : decode cX0_checksum 35 = .ok (.lmul, 1) := by decide +kernel
theorem dX0_checksum_36 : decode cX0_checksum 36 = .ok (.aload_n 0, 1) := by decide +kernel
theorem dX0_checksum_37 : decode cX0_checksum 37 = .ok (.iload_n 3, 1) := by decide +kernel
theorem dX0_checksum_38 : decode cX0_checksum 38 = .ok (.invokevirtual 73, 3) := by decide +kernel
theorem dX0_checksum_41 : decode cX0_checksum 41 = .ok (.bipush 91, 2) := by decide +kernel
theorem dX0_checksum_43 : decode cX0_checksum 43 = .ok (.imul, 1) := by decide +kernel
theorem dX0_checksum_44 : decode cX0_checksum 44 = .ok (.i2l, 1) := by decide +kernel
theorem dX0_checksum_45 : decode cX0_checksum 45 = .ok (.ladd, 1) := by decide +kernel
theorem dX0_checksum_46 : decode cX0_checksum 46 = .ok (.aload_n 0, 1) := by decide +kernel
theorem dX0_checksum_47 : decode cX0_checksum 47 = .ok (.iload_n 3, 1) := by decide +kernel
theorem dX0_checksum_48 : decode cX0_checksum 48 = .ok (.invokevirtual 69, 3) := by decide +kernel
theorem dX0_checksum_51 : decode cX0_checksum 51 = .ok (.i2l, 1) := by decide +kernel
theorem dX0_checksum_52 : decode cX0_checksum 52 = .ok (.ladd, 1) := by decide +kernel
theorem dX0_checksum_53 : decode cX0_checksum 53 = .ok (.lstore_n 1, 1) := by decide +kernel
theorem dX0_checksum_54 : decode cX0_checksum 54 = .ok (.ldc2_w 166, 3) := by decide +kernel
theorem dX0_checksum_57 : decode cX0_checksum 57 = .ok (.lload_n 1, 1) := by decide +kernel
theorem dX0_checksum_58 : decode cX0_checksum 58 = .ok (.lmul, 1) := by decide +kernel
theorem dX0_checksum_59 : decode cX0_checksum 59 = .ok (.aload_n 0, 1) := by decide +kernel
theorem dX0_checksum_60 : decode cX0_checksum 60 = .ok (.iload_n 3, 1) := by decide +kernel
theorem dX0_checksum_61 : decode cX0_checksum 61 = .ok (.invokevirtual 107, 3) := by decide +kernel
theorem dX0_checksum_64 : decode cX0_checksum 64 = .ok (.i2l, 1) := by decide +kernel
theorem dX0_checksum_65 : decode cX0_checksum 65 = .ok (.ladd, 1) := by decide +kernel
theorem dX0_checksum_66 : decode cX0_checksum 66 = .ok (.lstore_n 1, 1) := by decide +kernel
theorem dX0_checksum_67 : decode cX0_checksum 67 = .ok (.iinc 3 1, 3) := by decide +kernel
theorem dX0_checksum_70 : decode cX0_checksum 70 = .ok (.goto (-64), 3) := by decide +kernel
theorem dX0_checksum_73 : decode cX0_checksum 73 = .ok (.iconst 0, 1) := by decide +kernel
theorem dX0_checksum_74 : decode cX0_checksum 74 = .ok (.istore_n 3, 1) := by decide +kernel
theorem dX0_checksum_75 : decode cX0_checksum 75 = .ok (.iload_n 3, 1) := by decide +kernel
theorem dX0_checksum_76 : decode cX0_checksum 76 = .ok (.aload_n 0, 1) := by decide +kernel
theorem dX0_checksum_77 : decode cX0_checksum 77 = .ok (.getfield 23, 3) := by decide +kernel
theorem dX0_checksum_80 : decode cX0_checksum 80 = .ok (.if_icmp .ge 22, 3) := by decide +kernel
theorem dX0_checksum_83 : decode cX0_checksum 83 = .ok (.ldc2_w 166, 3) := by decide +kernel
theorem dX0_checksum_86 : decode cX0_checksum 86 = .ok (.lload_n 1, 1) := by decide +kernel
theorem dX0_checksum_87 : decode cX0_checksum 87 = .ok (.lmul, 1) := by decide +kernel
theorem dX0_checksum_88 : decode cX0_checksum 88 = .ok (.aload_n 0, 1) := by decide +kernel
theorem dX0_checksum_89 : decode cX0_checksum 89 = .ok (.iload_n 3, 1) := by decide +kernel
theorem dX0_checksum_90 : decode cX0_checksum 90 = .ok (.invokevirtual 139, 3) := by decide +kernel
theorem dX0_checksum_93 : decode cX0_checksum 93 = .ok (.i2l, 1) := by decide +kernel
theorem dX0_checksum_94 : decode cX0_checksum 94 = .ok (.ladd, 1) := by decide +kernel
theorem dX0_checksum_95 : decode cX0_checksum 95 = .ok (.lstore_n 1, 1) := by decide +kernel
theorem dX0_checksum_96 : decode cX0_checksum 96 = .ok (.iinc 3 1, 3) := by decide +kernel
theorem dX0_checksum_99 : decode cX0_checksum 99 = .ok (.goto (-24), 3) := by decide +kernel
theorem dX0_checksum_102 : decode cX0_checksum 102 = .ok (.ldc2_w 166, 3) := by decide +kernel
theorem dX0_checksum_105 : decode cX0_checksum 105 = .ok (.lload_n 1, 1) := by decide +kernel
theorem dX0_checksum_106 : decode cX0_checksum 106 = .ok (.lmul, 1) := by decide +kernel
theorem dX0_checksum_107 : decode cX0_checksum 107 = .ok (.aload_n 0, 1) := by decide +kernel
theorem dX0_checksum_108 : decode cX0_checksum 108 = .ok (.invokevirtual 168, 3) := by decide +kernel
theorem dX0_checksum_111 : decode cX0_checksum 111 = .ok (.i2l, 1) := by decide +kernel
theorem dX0_checksum_112 : decode cX0_checksum 112 = .ok (.ladd, 1) := by decide +kernel
theorem dX0_checksum_113 : decode cX0_checksum 113 = .ok (.lstore_n 1, 1) := by decide +kernel
theorem dX0_checksum_114 : decode cX0_checksum 114 = .ok (.ldc2_w 166, 3) := by decide +kernel
theorem dX0_checksum_117 : decode cX0_checksum 117 = .ok (.lload_n 1, 1) := by decide +kernel
theorem dX0_checksum_118 : decode cX0_checksum 118 = .ok (.lmul, 1) := by decide +kernel
theorem dX0_checksum_119 : decode cX0_checksum 119 = .ok (.aload_n 0, 1) := by decide +kernel
theorem dX0_checksum_120 : decode cX0_checksum 120 = .ok (.getfield 27, 3) := by decide +kernel
theorem dX0_checksum_123 : decode cX0_checksum 123 = .ok (.ifCond .eq 7, 3) := by decide +kernel
theorem dX0_checksum_126 : decode cX0_checksum 126 = .ok (.iconst 1, 1) := by decide +kernel
theorem dX0_checksum_127 : decode cX0_checksum 127 = .ok (.goto 4, 3) := by decide +kernel
theorem dX0_checksum_130 : decode cX0_checksum 130 = .ok (.iconst 0, 1) := by decide +kernel
theorem dX0_checksum_131 : decode cX0_checksum 131 = .ok (.i2l, 1) := by decide +kernel
theorem dX0_checksum_132 : decode cX0_checksum 132 = .ok (.ladd, 1) := by decide +kernel
theorem dX0_checksum_133 : decode cX0_checksum 133 = .ok (.lreturn, 1) := by decide +kernel
theorem dX0_isSound_0 : decode cX0_isSound 0 = .ok (.aload_n 0, 1) := by decide +kernel
theorem dX0_isSound_1 : decode cX0_isSound 1 = .ok (.invokevirtual 171, 3) := by decide +kernel
theorem dX0_isSound_4 : decode cX0_isSound 4 = .ok (.ifCond .eq 21, 3) := by decide +kernel
theorem dX0_isSound_7 : decode cX0_isSound 7 = .ok (.aload_n 0, 1) := by decide +kernel
theorem dX0_isSound_8 : decode cX0_isSound 8 = .ok (.invokevirtual 175, 3) := by decide +kernel
theorem dX0_isSound_11 : decode cX0_isSound 11 = .ok (.ifCond .eq 14, 3) := by decide +kernel
theorem dX0_isSound_14 : decode cX0_isSound 14 = .ok (.aload_n 0, 1) := by decide +kernel
theorem dX0_isSound_15 : decode cX0_isSound 15 = .ok (.invokevirtual 178, 3) := by decide +kernel
theorem dX0_isSound_18 : decode cX0_isSound 18 = .ok (.ifCond .eq 7, 3) := by decide +kernel
theorem dX0_isSound_21 : decode cX0_isSound 21 = .ok (.iconst 1, 1) := by decide +kernel
theorem dX0_isSound_22 : decode cX0_isSound 22 = .ok (.goto 4, 3) := by decide +kernel
theorem dX0_isSound_25 : decode cX0_isSound 25 = .ok (.iconst 0, 1) := by decide +kernel
theorem dX0_isSound_26 : decode cX0_isSound 26 = .ok (.ireturn, 1) := by decide +kernel
theorem dX0_arePairsSound_0 : decode cX0_arePairsSound 0 = .ok (.iconst 0, 1) := by decide +kernel
theorem dX0_arePairsSound_1 : decode cX0_arePairsSound 1 = .ok (.istore_n 1, 1) := by decide +kernel
theorem dX0_arePairsSound_2 : decode cX0_arePairsSound 2 = .ok (.iload_n 1, 1) := by decide +kernel
theorem dX0_arePairsSound_3 : decode cX0_arePairsSound 3 = .ok (.bipush 12, 2) := by decide +kernel
theorem dX0_arePairsSound_5 : decode cX0_arePairsSound 5 = .ok (.if_icmp .ge 70, 3) := by decide +kernel
theorem dX0_arePairsSound_8 : decode cX0_arePairsSound 8 = .ok (.iload_n 1, 1) := by decide +kernel
theorem dX0_arePairsSound_9 : decode cX0_arePairsSound 9 = .ok (.iconst 1, 1) := by decide +kernel
theorem dX0_arePairsSound_10 : decode cX0_arePairsSound 10 = .ok (.iadd, 1) := by decide +kernel
theorem dX0_arePairsSound_11 : decode cX0_arePairsSound 11 = .ok (.istore_n 2, 1) := by decide +kernel
theorem dX0_arePairsSound_12 : decode cX0_arePairsSound 12 = .ok (.iload_n 2, 1) := by decide +kernel
theorem dX0_arePairsSound_13 : decode cX0_arePairsSound 13 = .ok (.bipush 12, 2) := by decide +kernel
theorem dX0_arePairsSound_15 : decode cX0_arePairsSound 15 = .ok (.if_icmp .ge 54, 3) := by decide +kernel
theorem dX0_arePairsSound_18 : decode cX0_arePairsSound 18 = .ok (.aload_n 0, 1) := by decide +kernel
theorem dX0_arePairsSound_19 : decode cX0_arePairsSound 19 = .ok (.iload_n 1, 1) := by decide +kernel
theorem dX0_arePairsSound_20 : decode cX0_arePairsSound 20 = .ok (.invokevirtual 46, 3) := by decide +kernel
theorem dX0_arePairsSound_23 : decode cX0_arePairsSound 23 = .ok (.ifCond .eq 40, 3) := by decide +kernel
theorem dX0_arePairsSound_26 : decode cX0_arePairsSound 26 = .ok (.aload_n 0, 1) := by decide +kernel
theorem dX0_arePairsSound_27 : decode cX0_arePairsSound 27 = .ok (.iload_n 2, 1) := by decide +kernel
theorem dX0_arePairsSound_28 : decode cX0_arePairsSound 28 = .ok (.invokevirtual 46, 3) := by decide +kernel
theorem dX0_arePairsSound_31 : decode cX0_arePairsSound 31 = .ok (.ifCond .eq 32, 3) := by decide +kernel
theorem dX0_arePairsSound_34 : decode cX0_arePairsSound 34 = .ok (.aload_n 0, 1) := by decide +kernel
theorem dX0_arePairsSound_35 : decode cX0_arePairsSound 35 = .ok (.iload_n 1, 1) := by decide +kernel
theorem dX0_arePairsSound_36 : decode cX0_arePairsSound 36 = .ok (.iload_n 2, 1) := by decide +kernel
theorem dX0_arePairsSound_37 : decode cX0_arePairsSound 37 = .ok (.invokevirtual 181, 3) := by decide +kernel
theorem dX0_arePairsSound_40 : decode cX0_arePairsSound 40 = .ok (.ifCond .eq 21, 3) := by decide +kernel
theorem dX0_arePairsSound_43 : decode cX0_arePairsSound 43 = .ok (.aload_n 0, 1) := by decide +kernel
theorem dX0_arePairsSound_44 : decode cX0_arePairsSound 44 = .ok (.iload_n 1, 1) := by decide +kernel
theorem dX0_arePairsSound_45 : decode cX0_arePairsSound 45 = .ok (.iload_n 2, 1) := by decide +kernel
theorem dX0_arePairsSound_46 : decode cX0_arePairsSound 46 = .ok (.invokevirtual 185, 3) := by decide +kernel
theorem dX0_arePairsSound_49 : decode cX0_arePairsSound 49 = .ok (.ifCond .eq 12, 3) := by decide +kernel
theorem dX0_arePairsSound_52 : decode cX0_arePairsSound 52 = .ok (.aload_n 0, 1) := by decide +kernel
theorem dX0_arePairsSound_53 : decode cX0_arePairsSound 53 = .ok (.iload_n 1, 1) := by decide +kernel
theorem dX0_arePairsSound_54 : decode cX0_arePairsSound 54 = .ok (.iload_n 2, 1) := by decide +kernel
theorem dX0_arePairsSound_55 : decode cX0_arePairsSound 55 = .ok (.invokevirtual 188, 3) := by decide +kernel
theorem dX0_arePairsSound_58 : decode cX0_arePairsSound 58 = .ok (.ifCond .ne 5, 3) := by decide +kernel
theorem dX0_arePairsSound_61 : decode cX0_arePairsSound 61 = .ok (.iconst 0, 1) := by decide +kernel
theorem dX0_arePairsSound_62 : decode cX0_arePairsSound 62 = .ok (.ireturn, 1) := by decide +kernel
theorem dX0_arePairsSound_63 : decode cX0_arePairsSound 63 = .ok (.iinc 2 1, 3) := by decide +kernel
theorem dX0_arePairsSound_66 : decode cX0_arePairsSound 66 = .ok (.goto (-54), 3) := by decide +kernel
theorem dX0_arePairsSound_69 : decode cX0_arePairsSound 69 = .ok (.iinc 1 1, 3) := by decide +kernel
theorem dX0_arePairsSound_72 : decode cX0_arePairsSound 72 = .ok (.goto (-70), 3) := by decide +kernel
theorem dX0_arePairsSound_75 : decode cX0_arePairsSound 75 = .ok (.iconst 1, 1) := by decide +kernel
theorem dX0_arePairsSound_76 : decode cX0_arePairsSound 76 = .ok (.ireturn, 1) := by decide +kernel
theorem dX0_areThreesSound_0 : decode cX0_areThreesSound 0 = .ok (.iconst 0, 1) := by decide +kernel
theorem dX0_areThreesSound_1 : decode cX0_areThreesSound 1 = .ok (.istore_n 1, 1) := by decide +kernel
theorem dX0_areThreesSound_2 : decode cX0_areThreesSound 2 = .ok (.iload_n 1, 1) := by decide +kernel
theorem dX0_areThreesSound_3 : decode cX0_areThreesSound 3 = .ok (.bipush 12, 2) := by decide +kernel
theorem dX0_areThreesSound_5 : decode cX0_areThreesSound 5 = .ok (.if_icmp .ge 52, 3) := by decide +kernel
theorem dX0_areThreesSound_8 : decode cX0_areThreesSound 8 = .ok (.iload_n 1, 1) := by decide +kernel
theorem dX0_areThreesSound_9 : decode cX0_areThreesSound 9 = .ok (.iconst 1, 1) := by decide +kernel
theorem dX0_areThreesSound_10 : decode cX0_areThreesSound 10 = .ok (.iadd, 1) := by decide +kernel
theorem dX0_areThreesSound_11 : decode cX0_areThreesSound 11 = .ok (.istore_n 2, 1) := by decide +kernel
theorem dX0_areThreesSound_12 : decode cX0_areThreesSound 12 = .ok (.iload_n 2, 1) := by decide +kernel
theorem dX0_areThreesSound_13 : decode cX0_areThreesSound 13 = .ok (.bipush 12, 2) := by decide +kernel
theorem dX0_areThreesSound_15 : decode cX0_areThreesSound 15 = .ok (.if_icmp .ge 36, 3) := by decide +kernel
theorem dX0_areThreesSound_18 : decode cX0_areThreesSound 18 = .ok (.aload_n 0, 1) := by decide +kernel
theorem dX0_areThreesSound_19 : decode cX0_areThreesSound 19 = .ok (.iload_n 1, 1) := by decide +kernel
theorem dX0_areThreesSound_20 : decode cX0_areThreesSound 20 = .ok (.invokevirtual 46, 3) := by decide +kernel
theorem dX0_areThreesSound_23 : decode cX0_areThreesSound 23 = .ok (.ifCond .eq 22, 3) := by decide +kernel
theorem dX0_areThreesSound_26 : decode cX0_areThreesSound 26 = .ok (.aload_n 0, 1) := by decide +kernel
theorem dX0_areThreesSound_27 : decode cX0_areThreesSound 27 = .ok (.iload_n 2, 1) := by decide +kernel
theorem dX0_areThreesSound_28 : decode cX0_areThreesSound 28 = .ok (.invokevirtual 46, 3) := by decide +kernel
theorem dX0_areThreesSound_31 : decode cX0_areThreesSound 31 = .ok (.ifCond .eq 14, 3) := by decide +kernel
theorem dX0_areThreesSound_34 : decode cX0_areThreesSound 34 = .ok (.aload_n 0, 1) := by decide +kernel
theorem dX0_areThreesSound_35 : decode cX0_areThreesSound 35 = .ok (.iload_n 1, 1) := by decide +kernel
theorem dX0_areThreesSound_36 : decode cX0_areThreesSound 36 = .ok (.iload_n 2, 1) := by decide +kernel
theorem dX0_areThreesSound_37 : decode cX0_areThreesSound 37 = .ok (.invokevirtual 191, 3) := by decide +kernel
theorem dX0_areThreesSound_40 : decode cX0_areThreesSound 40 = .ok (.ifCond .ne 5, 3) := by decide +kernel
theorem dX0_areThreesSound_43 : decode cX0_areThreesSound 43 = .ok (.iconst 0, 1) := by decide +kernel
theorem dX0_areThreesSound_44 : decode cX0_areThreesSound 44 = .ok (.ireturn, 1) := by decide +kernel
theorem dX0_areThreesSound_45 : decode cX0_areThreesSound 45 = .ok (.iinc 2 1, 3) := by decide +kernel
theorem dX0_areThreesSound_48 : decode cX0_areThreesSound 48 = .ok (.goto (-36), 3) := by decide +kernel
theorem dX0_areThreesSound_51 : decode cX0_areThreesSound 51 = .ok (.iinc 1 1, 3) := by decide +kernel
theorem dX0_areThreesSound_54 : decode cX0_areThreesSound 54 = .ok (.goto (-52), 3) := by decide +kernel
theorem dX0_areThreesSound_57 : decode cX0_areThreesSound 57 = .ok (.iconst 1, 1) := by decide +kernel
theorem dX0_areThreesSound_58 : decode cX0_areThreesSound 58 = .ok (.ireturn, 1) := by decide +kernel
theorem dX0_isStraightByAll_0 : decode cX0_isStraightByAll 0 = .ok (.iconst 0, 1) := by decide +kernel
theorem dX0_isStraightByAll_1 : decode cX0_isStraightByAll 1 = .ok (.istore_n 3, 1) := by decide +kernel
theorem dX0_isStraightByAll_2 : decode cX0_isStraightByAll 2 = .ok (.iload_n 3, 1) := by decide +kernel
theorem dX0_isStraightByAll_3 : decode cX0_isStraightByAll 3 = .ok (.bipush 12, 2) := by decide +kernel
theorem dX0_isStraightByAll_5 : decode cX0_isStraightByAll 5 = .ok (.if_icmp .ge 39, 3) := by decide +kernel
theorem dX0_isStraightByAll_8 : decode cX0_isStraightByAll 8 = .ok (.iload_n 3, 1) := by decide +kernel
theorem dX0_isStraightByAll_9 : decode cX0_isStraightByAll 9 = .ok (.iload_n 1, 1) := by decide +kernel
theorem dX0_isStraightByAll_10 : decode cX0_isStraightByAll 10 = .ok (.if_icmp .eq 28, 3) := by decide +kernel
theorem dX0_isStraightByAll_13 : decode cX0_isStraightByAll 13 = .ok (.iload_n 3, 1) := by decide +kernel
theorem dX0_isStraightByAll_14 : decode cX0_isStraightByAll 14 = .ok (.iload_n 2, 1) := by decide +kernel
theorem dX0_isStraightByAll_15 : decode cX0_isStraightByAll 15 = .ok (.if_icmp .eq 23, 3) := by decide +kernel
theorem dX0_isStraightByAll_18 : decode cX0_isStraightByAll 18 = .ok (.aload_n 0, 1) := by decide +kernel
theorem dX0_isStraightByAll_19 : decode cX0_isStraightByAll 19 = .ok (.iload_n 3, 1) := by decide +kernel
theorem dX0_isStraightByAll_20 : decode cX0_isStraightByAll 20 = .ok (.invokevirtual 46, 3) := by decide +kernel
theorem dX0_isStraightByAll_23 : decode cX0_isStraightByAll 23 = .ok (.ifCond .eq 15, 3) := by decide +kernel
theorem dX0_isStraightByAll_26 : decode cX0_isStraightByAll 26 = .ok (.aload_n 0, 1) := by decide +kernel
theorem dX0_isStraightByAll_27 : decode cX0_isStraightByAll 27 = .ok (.iload_n 1, 1) := by decide +kernel
theorem dX0_isStraightByAll_28 : decode cX0_isStraightByAll 28 = .ok (.iload_n 3, 1) := by decide +kernel
theorem dX0_isStraightByAll_29 : decode cX0_isStraightByAll 29 = .ok (.iload_n 2, 1) := by decide +kernel
theorem dX0_isStraightByAll_30 : decode cX0_isStraightByAll 30 = .ok (.invokevirtual 194, 3) := by decide +kernel
theorem dX0_isStraightByAll_33 : decode cX0_isStraightByAll 33 = .ok (.ifCond .ne 5, 3) := by decide +kernel
theorem dX0_isStraightByAll_36 : decode cX0_isStraightByAll 36 = .ok (.iconst 0, 1) := by decide +kernel
theorem dX0_isStraightByAll_37 : decode cX0_isStraightByAll 37 = .ok (.ireturn, 1) := by decide +kernel
theorem dX0_isStraightByAll_38 : decode cX0_isStraightByAll 38 = .ok (.iinc 3 1, 3) := by decide +kernel
theorem dX0_isStraightByAll_41 : decode cX0_isStraightByAll 41 = .ok (.goto (-39), 3) := by decide +kernel
theorem dX0_isStraightByAll_44 : decode cX0_isStraightByAll 44 = .ok (.iconst 1, 1) := by decide +kernel
theorem dX0_isStraightByAll_45 : decode cX0_isStraightByAll 45 = .ok (.ireturn, 1) := by decide +kernel
theorem dX0_isAreaSound_0 : decode cX0_isAreaSound 0 = .ok (.aload_n 0, 1) := by decide +kernel
theorem dX0_isAreaSound_1 : decode cX0_isAreaSound 1 = .ok (.invokevirtual 150, 3) := by decide +kernel
theorem dX0_isAreaSound_4 : decode cX0_isAreaSound 4 = .ok (.invokestatic 154, 3) := by decide +kernel
theorem dX0_isAreaSound_7 : decode cX0_isAreaSound 7 = .ok (.istore_n 1, 1) := by decide +kernel
theorem dX0_isAreaSound_8 : decode cX0_isAreaSound 8 = .ok (.iload_n 1, 1) := by decide +kernel
theorem dX0_isAreaSound_9 : decode cX0_isAreaSound 9 = .ok (.invokestatic 159, 3) := by decide +kernel
theorem dX0_isAreaSound_12 : decode cX0_isAreaSound 12 = .ok (.ifCond .ne 5, 3) := by decide +kernel
theorem dX0_isAreaSound_15 : decode cX0_isAreaSound 15 = .ok (.iconst 1, 1) := by decide +kernel
theorem dX0_isAreaSound_16 : decode cX0_isAreaSound 16 = .ok (.ireturn, 1) := by decide +kernel
theorem dX0_isAreaSound_17 : decode cX0_isAreaSound 17 = .ok (.aload_n 0, 1) := by decide +kernel
theorem dX0_isAreaSound_18 : decode cX0_isAreaSound 18 = .ok (.iload_n 1, 1) := by decide +kernel
theorem dX0_isAreaSound_19 : decode cX0_isAreaSound 19 = .ok (.invokevirtual 198, 3) := by decide +kernel
theorem dX0_isAreaSound_22 : decode cX0_isAreaSound 22 = .ok (.ifCond .ne 5, 3) := by decide +kernel
theorem dX0_isAreaSound_25 : decode cX0_isAreaSound 25 = .ok (.iconst 0, 1) := by decide +kernel
theorem dX0_isAreaSound_26 : decode cX0_isAreaSound 26 = .ok (.ireturn, 1) := by decide +kernel
theorem dX0_isAreaSound_27 : decode cX0_isAreaSound 27 = .ok (.iload_n 1, 1) := by decide +kernel
theorem dX0_isAreaSound_28 : decode cX0_isAreaSound 28 = .ok (.ifCond .eq 31, 3) := by decide +kernel
theorem dX0_isAreaSound_31 : decode cX0_isAreaSound 31 = .ok (.aload_n 0, 1) := by decide +kernel
theorem dX0_isAreaSound_32 : decode cX0_isAreaSound 32 = .ok (.iload_n 1, 1) := by decide +kernel
theorem dX0_isAreaSound_33 : decode cX0_isAreaSound 33 = .ok (.iconst 1, 1) := by decide +kernel
theorem dX0_isAreaSound_34 : decode cX0_isAreaSound 34 = .ok (.isub, 1) := by decide +kernel
theorem dX0_isAreaSound_35 : decode cX0_isAreaSound 35 = .ok (.invokevirtual 198, 3) := by decide +kernel
theorem dX0_isAreaSound_38 : decode cX0_isAreaSound 38 = .ok (.ifCond .eq 25, 3) := by decide +kernel
theorem dX0_isAreaSound_41 : decode cX0_isAreaSound 41 = .ok (.aload_n 0, 1) := by decide +kernel
theorem dX0_isAreaSound_42 : decode cX0_isAreaSound 42 = .ok (.iload_n 1, 1) := by decide +kernel
theorem dX0_isAreaSound_43 : decode cX0_isAreaSound 43 = .ok (.iconst 0, 1) := by decide +kernel
theorem dX0_isAreaSound_44 : decode cX0_isAreaSound 44 = .ok (.invokevirtual 201, 3) := by decide +kernel
theorem dX0_isAreaSound_47 : decode cX0_isAreaSound 47 = .ok (.aload_n 0, 1) := by decide +kernel
theorem dX0_isAreaSound_48 : decode cX0_isAreaSound 48 = .ok (.iload_n 1, 1) := by decide +kernel
theorem dX0_isAreaSound_49 : decode cX0_isAreaSound 49 = .ok (.iconst 1, 1) := by decide +kernel
theorem dX0_isAreaSound_50 : decode cX0_isAreaSound 50 = .ok (.isub, 1) := by decide +kernel
theorem dX0_isAreaSound_51 : decode cX0_isAreaSound 51 = .ok (.iconst 0, 1) := by decide +kernel
theorem dX0_isAreaSound_52 : decode cX0_isAreaSound 52 = .ok (.invokevirtual 201, 3) := by decide +kernel
theorem dX0_isAreaSound_55 : decode cX0_isAreaSound 55 = .ok (.dcmp .l, 1) := by decide +kernel
theorem dX0_isAreaSound_56 : decode cX0_isAreaSound 56 = .ok (.ifCond .le 7, 3) := by decide +kernel
theorem dX0_isAreaSound_59 : decode cX0_isAreaSound 59 = .ok (.iconst 1, 1) := by decide +kernel
theorem dX0_isAreaSound_60 : decode cX0_isAreaSound 60 = .ok (.goto 4, 3) := by decide +kernel
end
section
theorem dX0_isAreaSound_63 : decode cX0_isAreaSound 63 = .ok (.iconst 0, 1) := by decide +kernel
theorem dX0_isAreaSound_64 : decode cX0_isAreaSound 64 = .ok (.ireturn, 1) := by decide +kernel
theorem dX0_isRootSound_0 : decode cX0_isRootSound 0 = .ok (.aload_n 0, 1) := by decide +kernel
theorem dX0_isRootSound_1 : decode cX0_isRootSound 1 = .ok (.iload_n 1, 1) := by decide +kernel
theorem dX0_isRootSound_2 : decode cX0_isRootSound 2 = .ok (.iconst 0, 1) := by decide +kernel
theorem dX0_isRootSound_3 : decode cX0_isRootSound 3 = .ok (.invokevirtual 205, 3) := by decide +kernel
theorem dX0_isRootSound_6 : decode cX0_isRootSound 6 = .ok (.ifCond .eq 24, 3) := by decide +kernel
theorem dX0_isRootSound_9 : decode cX0_isRootSound 9 = .ok (.aload_n 0, 1) := by decide +kernel
theorem dX0_isRootSound_10 : decode cX0_isRootSound 10 = .ok (.iload_n 1, 1) := by decide +kernel
theorem dX0_isRootSound_11 : decode cX0_isRootSound 11 = .ok (.iconst 1, 1) := by decide +kernel
theorem dX0_isRootSound_12 : decode cX0_isRootSound 12 = .ok (.invokevirtual 205, 3) := by decide +kernel
theorem dX0_isRootSound_15 : decode cX0_isRootSound 15 = .ok (.ifCond .eq 15, 3) := by decide +kernel
theorem dX0_isRootSound_18 : decode cX0_isRootSound 18 = .ok (.aload_n 0, 1) := by decide +kernel
theorem dX0_isRootSound_19 : decode cX0_isRootSound 19 = .ok (.iload_n 1, 1) := by decide +kernel
theorem dX0_isRootSound_20 : decode cX0_isRootSound 20 = .ok (.invokevirtual 209, 3) := by decide +kernel
theorem dX0_isRootSound_23 : decode cX0_isRootSound 23 = .ok (.ifCond .eq 7, 3) := by decide +kernel
theorem dX0_isRootSound_26 : decode cX0_isRootSound 26 = .ok (.iconst 1, 1) := by decide +kernel
theorem dX0_isRootSound_27 : decode cX0_isRootSound 27 = .ok (.goto 4, 3) := by decide +kernel
theorem dX0_isRootSound_30 : decode cX0_isRootSound 30 = .ok (.iconst 0, 1) := by decide +kernel
theorem dX0_isRootSound_31 : decode cX0_isRootSound 31 = .ok (.ireturn, 1) := by decide +kernel
theorem dX0_isPeg_0 : decode cX0_isPeg 0 = .ok (.iload_n 0, 1) := by decide +kernel
theorem dX0_isPeg_1 : decode cX0_isPeg 1 = .ok (.ifCond .lt 13, 3) := by decide +kernel
theorem dX0_isPeg_4 : decode cX0_isPeg 4 = .ok (.iload_n 0, 1) := by decide +kernel
theorem dX0_isPeg_5 : decode cX0_isPeg 5 = .ok (.bipush 12, 2) := by decide +kernel
theorem dX0_isPeg_7 : decode cX0_isPeg 7 = .ok (.if_icmp .ge 7, 3) := by decide +kernel
theorem dX0_isPeg_10 : decode cX0_isPeg 10 = .ok (.iconst 1, 1) := by decide +kernel
theorem dX0_isPeg_11 : decode cX0_isPeg 11 = .ok (.goto 4, 3) := by decide +kernel
theorem dX0_isPeg_14 : decode cX0_isPeg 14 = .ok (.iconst 0, 1) := by decide +kernel
theorem dX0_isPeg_15 : decode cX0_isPeg 15 = .ok (.ireturn, 1) := by decide +kernel
theorem dX0_isPlace_0 : decode cX0_isPlace 0 = .ok (.iload_n 0, 1) := by decide +kernel
theorem dX0_isPlace_1 : decode cX0_isPlace 1 = .ok (.ifCond .lt 13, 3) := by decide +kernel
theorem dX0_isPlace_4 : decode cX0_isPlace 4 = .ok (.iload_n 0, 1) := by decide +kernel
theorem dX0_isPlace_5 : decode cX0_isPlace 5 = .ok (.bipush 91, 2) := by decide +kernel
theorem dX0_isPlace_7 : decode cX0_isPlace 7 = .ok (.if_icmp .ge 7, 3) := by decide +kernel
theorem dX0_isPlace_10 : decode cX0_isPlace 10 = .ok (.iconst 1, 1) := by decide +kernel
theorem dX0_isPlace_11 : decode cX0_isPlace 11 = .ok (.goto 4, 3) := by decide +kernel
theorem dX0_isPlace_14 : decode cX0_isPlace 14 = .ok (.iconst 0, 1) := by decide +kernel
theorem dX0_isPlace_15 : decode cX0_isPlace 15 = .ok (.ireturn, 1) := by decide +kernel
theorem dX0_isNumber_0 : decode cX0_isNumber 0 = .ok (.iload_n 0, 1) := by decide +kernel
theorem dX0_isNumber_1 : decode cX0_isNumber 1 = .ok (.ifCond .lt 14, 3) := by decide +kernel
theorem dX0_isNumber_4 : decode cX0_isNumber 4 = .ok (.iload_n 0, 1) := by decide +kernel
theorem dX0_isNumber_5 : decode cX0_isNumber 5 = .ok (.sipush 32767, 3) := by decide +kernel
theorem dX0_isNumber_8 : decode cX0_isNumber 8 = .ok (.if_icmp .gt 7, 3) := by decide +kernel
theorem dX0_isNumber_11 : decode cX0_isNumber 11 = .ok (.iconst 1, 1) := by decide +kernel
theorem dX0_isNumber_12 : decode cX0_isNumber 12 = .ok (.goto 4, 3) := by decide +kernel
theorem dX0_isNumber_15 : decode cX0_isNumber 15 = .ok (.iconst 0, 1) := by decide +kernel
theorem dX0_isNumber_16 : decode cX0_isNumber 16 = .ok (.ireturn, 1) := by decide +kernel
theorem dX0_requirePeg_0 : decode cX0_requirePeg 0 = .ok (.iload_n 0, 1) := by decide +kernel
theorem dX0_requirePeg_1 : decode cX0_requirePeg 1 = .ok (.invokestatic 64, 3) := by decide +kernel
theorem dX0_requirePeg_4 : decode cX0_requirePeg 4 = .ok (.ifCond .ne 13, 3) := by decide +kernel
theorem dX0_requirePeg_7 : decode cX0_requirePeg 7 = .ok (.new 142, 3) := by decide +kernel
theorem dX0_requirePeg_10 : decode cX0_requirePeg 10 = .ok (.dup, 1) := by decide +kernel
theorem dX0_requirePeg_11 : decode cX0_requirePeg 11 = .ok (.ldc 212, 2) := by decide +kernel
theorem dX0_requirePeg_13 : decode cX0_requirePeg 13 = .ok (.invokespecial 146, 3) := by decide +kernel
theorem dX0_requirePeg_16 : decode cX0_requirePeg 16 = .ok (.athrow, 1) := by decide +kernel
theorem dX0_requirePeg_17 : decode cX0_requirePeg 17 = .ok (.return_, 1) := by decide +kernel
theorem dX0_requireStanding_0 : decode cX0_requireStanding 0 = .ok (.aload_n 0, 1) := by decide +kernel
theorem dX0_requireStanding_1 : decode cX0_requireStanding 1 = .ok (.iload_n 1, 1) := by decide +kernel
theorem dX0_requireStanding_2 : decode cX0_requireStanding 2 = .ok (.invokevirtual 46, 3) := by decide +kernel
theorem dX0_requireStanding_5 : decode cX0_requireStanding 5 = .ok (.ifCond .ne 13, 3) := by decide +kernel
theorem dX0_requireStanding_8 : decode cX0_requireStanding 8 = .ok (.new 214, 3) := by decide +kernel
theorem dX0_requireStanding_11 : decode cX0_requireStanding 11 = .ok (.dup, 1) := by decide +kernel
theorem dX0_requireStanding_12 : decode cX0_requireStanding 12 = .ok (.ldc 216, 2) := by decide +kernel
theorem dX0_requireStanding_14 : decode cX0_requireStanding 14 = .ok (.invokespecial 218, 3) := by decide +kernel
theorem dX0_requireStanding_17 : decode cX0_requireStanding 17 = .ok (.athrow, 1) := by decide +kernel
theorem dX0_requireStanding_18 : decode cX0_requireStanding 18 = .ok (.return_, 1) := by decide +kernel
theorem dX0_requireTwo_0 : decode cX0_requireTwo 0 = .ok (.iload_n 1, 1) := by decide +kernel
theorem dX0_requireTwo_1 : decode cX0_requireTwo 1 = .ok (.invokestatic 31, 3) := by decide +kernel
theorem dX0_requireTwo_4 : decode cX0_requireTwo 4 = .ok (.iload_n 2, 1) := by decide +kernel
theorem dX0_requireTwo_5 : decode cX0_requireTwo 5 = .ok (.invokestatic 31, 3) := by decide +kernel
theorem dX0_requireTwo_8 : decode cX0_requireTwo 8 = .ok (.aload_n 0, 1) := by decide +kernel
theorem dX0_requireTwo_9 : decode cX0_requireTwo 9 = .ok (.iload_n 1, 1) := by decide +kernel
theorem dX0_requireTwo_10 : decode cX0_requireTwo 10 = .ok (.invokevirtual 53, 3) := by decide +kernel
theorem dX0_requireTwo_13 : decode cX0_requireTwo 13 = .ok (.aload_n 0, 1) := by decide +kernel
theorem dX0_requireTwo_14 : decode cX0_requireTwo 14 = .ok (.iload_n 2, 1) := by decide +kernel
theorem dX0_requireTwo_15 : decode cX0_requireTwo 15 = .ok (.invokevirtual 53, 3) := by decide +kernel
theorem dX0_requireTwo_18 : decode cX0_requireTwo 18 = .ok (.return_, 1) := by decide +kernel
theorem dX0_requireNumber_0 : decode cX0_requireNumber 0 = .ok (.iload_n 0, 1) := by decide +kernel
theorem dX0_requireNumber_1 : decode cX0_requireNumber 1 = .ok (.invokestatic 159, 3) := by decide +kernel
theorem dX0_requireNumber_4 : decode cX0_requireNumber 4 = .ok (.ifCond .ne 13, 3) := by decide +kernel
theorem dX0_requireNumber_7 : decode cX0_requireNumber 7 = .ok (.new 39, 3) := by decide +kernel
theorem dX0_requireNumber_10 : decode cX0_requireNumber 10 = .ok (.dup, 1) := by decide +kernel
theorem dX0_requireNumber_11 : decode cX0_requireNumber 11 = .ok (.ldc 219, 2) := by decide +kernel
theorem dX0_requireNumber_13 : decode cX0_requireNumber 13 = .ok (.invokespecial 43, 3) := by decide +kernel
theorem dX0_requireNumber_16 : decode cX0_requireNumber 16 = .ok (.athrow, 1) := by decide +kernel
theorem dX0_requireNumber_17 : decode cX0_requireNumber 17 = .ok (.return_, 1) := by decide +kernel
theorem dX0_stands_0 : decode cX0_stands 0 = .ok (.iload_n 1, 1) := by decide +kernel
theorem dX0_stands_1 : decode cX0_stands 1 = .ok (.invokestatic 64, 3) := by decide +kernel
theorem dX0_stands_4 : decode cX0_stands 4 = .ok (.ifCond .eq 16, 3) := by decide +kernel
theorem dX0_stands_7 : decode cX0_stands 7 = .ok (.aload_n 0, 1) := by decide +kernel
theorem dX0_stands_8 : decode cX0_stands 8 = .ok (.getfield 9, 3) := by decide +kernel
theorem dX0_stands_11 : decode cX0_stands 11 = .ok (.iload_n 1, 1) := by decide +kernel
theorem dX0_stands_12 : decode cX0_stands 12 = .ok (.baload, 1) := by decide +kernel
theorem dX0_stands_13 : decode cX0_stands 13 = .ok (.ifCond .eq 7, 3) := by decide +kernel
theorem dX0_stands_16 : decode cX0_stands 16 = .ok (.iconst 1, 1) := by decide +kernel
theorem dX0_stands_17 : decode cX0_stands 17 = .ok (.goto 4, 3) := by decide +kernel
theorem dX0_stands_20 : decode cX0_stands 20 = .ok (.iconst 0, 1) := by decide +kernel
theorem dX0_stands_21 : decode cX0_stands 21 = .ok (.ireturn, 1) := by decide +kernel
theorem dX0_across_0 : decode cX0_across 0 = .ok (.iload_n 1, 1) := by decide +kernel
theorem dX0_across_1 : decode cX0_across 1 = .ok (.invokestatic 64, 3) := by decide +kernel
theorem dX0_across_4 : decode cX0_across 4 = .ok (.ifCond .eq 12, 3) := by decide +kernel
theorem dX0_across_7 : decode cX0_across 7 = .ok (.aload_n 0, 1) := by decide +kernel
theorem dX0_across_8 : decode cX0_across 8 = .ok (.getfield 13, 3) := by decide +kernel
theorem dX0_across_11 : decode cX0_across 11 = .ok (.iload_n 1, 1) := by decide +kernel
theorem dX0_across_12 : decode cX0_across 12 = .ok (.iaload, 1) := by decide +kernel
theorem dX0_across_13 : decode cX0_across 13 = .ok (.goto 4, 3) := by decide +kernel
theorem dX0_across_16 : decode cX0_across 16 = .ok (.iconst 0, 1) := by decide +kernel
theorem dX0_across_17 : decode cX0_across 17 = .ok (.ireturn, 1) := by decide +kernel
theorem dX0_up_0 : decode cX0_up 0 = .ok (.iload_n 1, 1) := by decide +kernel
theorem dX0_up_1 : decode cX0_up 1 = .ok (.invokestatic 64, 3) := by decide +kernel
theorem dX0_up_4 : decode cX0_up 4 = .ok (.ifCond .eq 12, 3) := by decide +kernel
theorem dX0_up_7 : decode cX0_up 7 = .ok (.aload_n 0, 1) := by decide +kernel
theorem dX0_up_8 : decode cX0_up 8 = .ok (.getfield 17, 3) := by decide +kernel
theorem dX0_up_11 : decode cX0_up 11 = .ok (.iload_n 1, 1) := by decide +kernel
theorem dX0_up_12 : decode cX0_up 12 = .ok (.iaload, 1) := by decide +kernel
theorem dX0_up_13 : decode cX0_up 13 = .ok (.goto 4, 3) := by decide +kernel
theorem dX0_up_16 : decode cX0_up 16 = .ok (.iconst 0, 1) := by decide +kernel
theorem dX0_up_17 : decode cX0_up 17 = .ok (.ireturn, 1) := by decide +kernel
theorem dX0_moveTo_0 : decode cX0_moveTo 0 = .ok (.iload_n 1, 1) := by decide +kernel
theorem dX0_moveTo_1 : decode cX0_moveTo 1 = .ok (.invokestatic 64, 3) := by decide +kernel
theorem dX0_moveTo_4 : decode cX0_moveTo 4 = .ok (.ifCond .eq 24, 3) := by decide +kernel
theorem dX0_moveTo_7 : decode cX0_moveTo 7 = .ok (.aload_n 0, 1) := by decide +kernel
theorem dX0_moveTo_8 : decode cX0_moveTo 8 = .ok (.getfield 9, 3) := by decide +kernel
theorem dX0_moveTo_11 : decode cX0_moveTo 11 = .ok (.iload_n 1, 1) := by decide +kernel
theorem dX0_moveTo_12 : decode cX0_moveTo 12 = .ok (.iconst 1, 1) := by decide +kernel
theorem dX0_moveTo_13 : decode cX0_moveTo 13 = .ok (.bastore, 1) := by decide +kernel
theorem dX0_moveTo_14 : decode cX0_moveTo 14 = .ok (.aload_n 0, 1) := by decide +kernel
theorem dX0_moveTo_15 : decode cX0_moveTo 15 = .ok (.getfield 13, 3) := by decide +kernel
theorem dX0_moveTo_18 : decode cX0_moveTo 18 = .ok (.iload_n 1, 1) := by decide +kernel
theorem dX0_moveTo_19 : decode cX0_moveTo 19 = .ok (.iload_n 2, 1) := by decide +kernel
theorem dX0_moveTo_20 : decode cX0_moveTo 20 = .ok (.iastore, 1) := by decide +kernel
theorem dX0_moveTo_21 : decode cX0_moveTo 21 = .ok (.aload_n 0, 1) := by decide +kernel
theorem dX0_moveTo_22 : decode cX0_moveTo 22 = .ok (.getfield 17, 3) := by decide +kernel
theorem dX0_moveTo_25 : decode cX0_moveTo 25 = .ok (.iload_n 1, 1) := by decide +kernel
theorem dX0_moveTo_26 : decode cX0_moveTo 26 = .ok (.iload_n 3, 1) := by decide +kernel
theorem dX0_moveTo_27 : decode cX0_moveTo 27 = .ok (.iastore, 1) := by decide +kernel
theorem dX0_moveTo_28 : decode cX0_moveTo 28 = .ok (.return_, 1) := by decide +kernel
theorem dX0_pegInRing_0 : decode cX0_pegInRing 0 = .ok (.iload_n 1, 1) := by decide +kernel
theorem dX0_pegInRing_1 : decode cX0_pegInRing 1 = .ok (.ifCond .lt 18, 3) := by decide +kernel
theorem dX0_pegInRing_4 : decode cX0_pegInRing 4 = .ok (.iload_n 1, 1) := by decide +kernel
theorem dX0_pegInRing_5 : decode cX0_pegInRing 5 = .ok (.bipush 12, 2) := by decide +kernel
theorem dX0_pegInRing_7 : decode cX0_pegInRing 7 = .ok (.if_icmp .ge 12, 3) := by decide +kernel
theorem dX0_pegInRing_10 : decode cX0_pegInRing 10 = .ok (.aload_n 0, 1) := by decide +kernel
theorem dX0_pegInRing_11 : decode cX0_pegInRing 11 = .ok (.getfield 20, 3) := by decide +kernel
theorem dX0_pegInRing_14 : decode cX0_pegInRing 14 = .ok (.iload_n 1, 1) := by decide +kernel
theorem dX0_pegInRing_15 : decode cX0_pegInRing 15 = .ok (.iaload, 1) := by decide +kernel
theorem dX0_pegInRing_16 : decode cX0_pegInRing 16 = .ok (.goto 4, 3) := by decide +kernel
theorem dX0_pegInRing_19 : decode cX0_pegInRing 19 = .ok (.iconst (-1), 1) := by decide +kernel
theorem dX0_pegInRing_20 : decode cX0_pegInRing 20 = .ok (.ireturn, 1) := by decide +kernel
theorem dX0_placeAfter_0 : decode cX0_placeAfter 0 = .ok (.iload_n 1, 1) := by decide +kernel
theorem dX0_placeAfter_1 : decode cX0_placeAfter 1 = .ok (.iconst 1, 1) := by decide +kernel
theorem dX0_placeAfter_2 : decode cX0_placeAfter 2 = .ok (.iadd, 1) := by decide +kernel
theorem dX0_placeAfter_3 : decode cX0_placeAfter 3 = .ok (.aload_n 0, 1) := by decide +kernel
theorem dX0_placeAfter_4 : decode cX0_placeAfter 4 = .ok (.getfield 23, 3) := by decide +kernel
theorem dX0_placeAfter_7 : decode cX0_placeAfter 7 = .ok (.if_icmp .ge 9, 3) := by decide +kernel
theorem dX0_placeAfter_10 : decode cX0_placeAfter 10 = .ok (.iload_n 1, 1) := by decide +kernel
theorem dX0_placeAfter_11 : decode cX0_placeAfter 11 = .ok (.iconst 1, 1) := by decide +kernel
theorem dX0_placeAfter_12 : decode cX0_placeAfter 12 = .ok (.iadd, 1) := by decide +kernel
theorem dX0_placeAfter_13 : decode cX0_placeAfter 13 = .ok (.goto 4, 3) := by decide +kernel
theorem dX0_placeAfter_16 : decode cX0_placeAfter 16 = .ok (.iconst 0, 1) := by decide +kernel
theorem dX0_placeAfter_17 : decode cX0_placeAfter 17 = .ok (.ireturn, 1) := by decide +kernel
theorem dX0_isInRing_0 : decode cX0_isInRing 0 = .ok (.iconst 0, 1) := by decide +kernel
theorem dX0_isInRing_1 : decode cX0_isInRing 1 = .ok (.istore_n 2, 1) := by decide +kernel
theorem dX0_isInRing_2 : decode cX0_isInRing 2 = .ok (.iload_n 2, 1) := by decide +kernel
theorem dX0_isInRing_3 : decode cX0_isInRing 3 = .ok (.aload_n 0, 1) := by decide +kernel
theorem dX0_isInRing_4 : decode cX0_isInRing 4 = .ok (.getfield 23, 3) := by decide +kernel
theorem dX0_isInRing_7 : decode cX0_isInRing 7 = .ok (.if_icmp .ge 20, 3) := by decide +kernel
theorem dX0_isInRing_10 : decode cX0_isInRing 10 = .ok (.aload_n 0, 1) := by decide +kernel
theorem dX0_isInRing_11 : decode cX0_isInRing 11 = .ok (.iload_n 2, 1) := by decide +kernel
theorem dX0_isInRing_12 : decode cX0_isInRing 12 = .ok (.invokevirtual 139, 3) := by decide +kernel
theorem dX0_isInRing_15 : decode cX0_isInRing 15 = .ok (.iload_n 1, 1) := by decide +kernel
theorem dX0_isInRing_16 : decode cX0_isInRing 16 = .ok (.if_icmp .ne 5, 3) := by decide +kernel
theorem dX0_isInRing_19 : decode cX0_isInRing 19 = .ok (.iconst 1, 1) := by decide +kernel
theorem dX0_isInRing_20 : decode cX0_isInRing 20 = .ok (.ireturn, 1) := by decide +kernel
theorem dX0_isInRing_21 : decode cX0_isInRing 21 = .ok (.iinc 2 1, 3) := by decide +kernel
theorem dX0_isInRing_24 : decode cX0_isInRing 24 = .ok (.goto (-22), 3) := by decide +kernel
theorem dX0_isInRing_27 : decode cX0_isInRing 27 = .ok (.iconst 0, 1) := by decide +kernel
theorem dX0_isInRing_28 : decode cX0_isInRing 28 = .ok (.ireturn, 1) := by decide +kernel
theorem dX0_nearestOther_0 : decode cX0_nearestOther 0 = .ok (.iconst (-1), 1) := by decide +kernel
theorem dX0_nearestOther_1 : decode cX0_nearestOther 1 = .ok (.istore_n 2, 1) := by decide +kernel
theorem dX0_nearestOther_2 : decode cX0_nearestOther 2 = .ok (.iconst 0, 1) := by decide +kernel
theorem dX0_nearestOther_3 : decode cX0_nearestOther 3 = .ok (.istore_n 3, 1) := by decide +kernel
theorem dX0_nearestOther_4 : decode cX0_nearestOther 4 = .ok (.iconst 0, 1) := by decide +kernel
theorem dX0_nearestOther_5 : decode cX0_nearestOther 5 = .ok (.istore 4, 2) := by decide +kernel
theorem dX0_nearestOther_7 : decode cX0_nearestOther 7 = .ok (.iload 4, 2) := by decide +kernel
theorem dX0_nearestOther_9 : decode cX0_nearestOther 9 = .ok (.bipush 12, 2) := by decide +kernel
theorem dX0_nearestOther_11 : decode cX0_nearestOther 11 = .ok (.if_icmp .ge 50, 3) := by decide +kernel
theorem dX0_nearestOther_14 : decode cX0_nearestOther 14 = .ok (.iload 4, 2) := by decide +kernel
theorem dX0_nearestOther_16 : decode cX0_nearestOther 16 = .ok (.iload_n 1, 1) := by decide +kernel
theorem dX0_nearestOther_17 : decode cX0_nearestOther 17 = .ok (.if_icmp .eq 38, 3) := by decide +kernel
theorem dX0_nearestOther_20 : decode cX0_nearestOther 20 = .ok (.aload_n 0, 1) := by decide +kernel
theorem dX0_nearestOther_21 : decode cX0_nearestOther 21 = .ok (.iload 4, 2) := by decide +kernel
theorem dX0_nearestOther_23 : decode cX0_nearestOther 23 = .ok (.invokevirtual 46, 3) := by decide +kernel
theorem dX0_nearestOther_26 : decode cX0_nearestOther 26 = .ok (.ifCond .eq 29, 3) := by decide +kernel
theorem dX0_nearestOther_29 : decode cX0_nearestOther 29 = .ok (.aload_n 0, 1) := by decide +kernel
theorem dX0_nearestOther_30 : decode cX0_nearestOther 30 = .ok (.iload_n 1, 1) := by decide +kernel
theorem dX0_nearestOther_31 : decode cX0_nearestOther 31 = .ok (.iload 4, 2) := by decide +kernel
theorem dX0_nearestOther_33 : decode cX0_nearestOther 33 = .ok (.invokevirtual 80, 3) := by decide +kernel
theorem dX0_nearestOther_36 : decode cX0_nearestOther 36 = .ok (.istore 5, 2) := by decide +kernel
theorem dX0_nearestOther_38 : decode cX0_nearestOther 38 = .ok (.iload_n 2, 1) := by decide +kernel
theorem dX0_nearestOther_39 : decode cX0_nearestOther 39 = .ok (.iconst (-1), 1) := by decide +kernel
theorem dX0_nearestOther_40 : decode cX0_nearestOther 40 = .ok (.if_icmp .eq 9, 3) := by decide +kernel
theorem dX0_nearestOther_43 : decode cX0_nearestOther 43 = .ok (.iload 5, 2) := by decide +kernel
theorem dX0_nearestOther_45 : decode cX0_nearestOther 45 = .ok (.iload_n 3, 1) := by decide +kernel
theorem dX0_nearestOther_46 : decode cX0_nearestOther 46 = .ok (.if_icmp .ge 9, 3) := by decide +kernel
theorem dX0_nearestOther_49 : decode cX0_nearestOther 49 = .ok (.iload 4, 2) := by decide +kernel
theorem dX0_nearestOther_51 : decode cX0_nearestOther 51 = .ok (.istore_n 2, 1) := by decide +kernel
theorem dX0_nearestOther_52 : decode cX0_nearestOther 52 = .ok (.iload 5, 2) := by decide +kernel
theorem dX0_nearestOther_54 : decode cX0_nearestOther 54 = .ok (.istore_n 3, 1) := by decide +kernel
theorem dX0_nearestOther_55 : decode cX0_nearestOther 55 = .ok (.iinc 4 1, 3) := by decide +kernel
theorem dX0_nearestOther_58 : decode cX0_nearestOther 58 = .ok (.goto (-51), 3) := by decide +kernel
theorem dX0_nearestOther_61 : decode cX0_nearestOther 61 = .ok (.iload_n 2, 1) := by decide +kernel
theorem dX0_nearestOther_62 : decode cX0_nearestOther 62 = .ok (.ireturn, 1) := by decide +kernel
theorem dX0_stretchGrains_0 : decode cX0_stretchGrains 0 = .ok (.aload_n 0, 1) := by decide +kernel
theorem dX0_stretchGrains_1 : decode cX0_stretchGrains 1 = .ok (.iload_n 2, 1) := by decide +kernel
theorem dX0_stretchGrains_2 : decode cX0_stretchGrains 2 = .ok (.invokevirtual 69, 3) := by decide +kernel
theorem dX0_stretchGrains_5 : decode cX0_stretchGrains 5 = .ok (.aload_n 0, 1) := by decide +kernel
theorem dX0_stretchGrains_6 : decode cX0_stretchGrains 6 = .ok (.iload_n 1, 1) := by decide +kernel
theorem dX0_stretchGrains_7 : decode cX0_stretchGrains 7 = .ok (.invokevirtual 69, 3) := by decide +kernel
theorem dX0_stretchGrains_10 : decode cX0_stretchGrains 10 = .ok (.isub, 1) := by decide +kernel
theorem dX0_stretchGrains_11 : decode cX0_stretchGrains 11 = .ok (.aload_n 0, 1) := by decide +kernel
theorem dX0_stretchGrains_12 : decode cX0_stretchGrains 12 = .ok (.iload_n 2, 1) := by decide +kernel
theorem dX0_stretchGrains_13 : decode cX0_stretchGrains 13 = .ok (.invokevirtual 73, 3) := by decide +kernel
theorem dX0_stretchGrains_16 : decode cX0_stretchGrains 16 = .ok (.aload_n 0, 1) := by decide +kernel
theorem dX0_stretchGrains_17 : decode cX0_stretchGrains 17 = .ok (.iload_n 1, 1) := by decide +kernel
theorem dX0_stretchGrains_18 : decode cX0_stretchGrains 18 = .ok (.invokevirtual 73, 3) := by decide +kernel
theorem dX0_stretchGrains_21 : decode cX0_stretchGrains 21 = .ok (.isub, 1) := by decide +kernel
theorem dX0_stretchGrains_22 : decode cX0_stretchGrains 22 = .ok (.aload_n 0, 1) := by decide +kernel
theorem dX0_stretchGrains_23 : decode cX0_stretchGrains 23 = .ok (.getfield 27, 3) := by decide +kernel
theorem dX0_stretchGrains_26 : decode cX0_stretchGrains 26 = .ok (.invokestatic 92, 3) := by decide +kernel
theorem dX0_stretchGrains_29 : decode cX0_stretchGrains 29 = .ok (.invokestatic 119, 3) := by decide +kernel
theorem dX0_stretchGrains_32 : decode cX0_stretchGrains 32 = .ok (.ireturn, 1) := by decide +kernel
theorem dX0_sixteenthsOf_0 : decode cX0_sixteenthsOf 0 = .ok (.iload_n 1, 1) := by decide +kernel
theorem dX0_sixteenthsOf_1 : decode cX0_sixteenthsOf 1 = .ok (.ifCond .eq 9, 3) := by decide +kernel
theorem dX0_sixteenthsOf_4 : decode cX0_sixteenthsOf 4 = .ok (.iconst 4, 1) := by decide +kernel
theorem dX0_sixteenthsOf_5 : decode cX0_sixteenthsOf 5 = .ok (.iload_n 0, 1) := by decide +kernel
theorem dX0_sixteenthsOf_6 : decode cX0_sixteenthsOf 6 = .ok (.imul, 1) := by decide +kernel
theorem dX0_sixteenthsOf_7 : decode cX0_sixteenthsOf 7 = .ok (.goto 7, 3) := by decide +kernel
theorem dX0_sixteenthsOf_10 : decode cX0_sixteenthsOf 10 = .ok (.bipush 16, 2) := by decide +kernel
theorem dX0_sixteenthsOf_12 : decode cX0_sixteenthsOf 12 = .ok (.iload_n 0, 1) := by decide +kernel
theorem dX0_sixteenthsOf_13 : decode cX0_sixteenthsOf 13 = .ok (.imul, 1) := by decide +kernel
theorem dX0_sixteenthsOf_14 : decode cX0_sixteenthsOf 14 = .ok (.ireturn, 1) := by decide +kernel
theorem dX0_squareSum_0 : decode cX0_squareSum 0 = .ok (.iload_n 0, 1) := by decide +kernel
theorem dX0_squareSum_1 : decode cX0_squareSum 1 = .ok (.iload_n 0, 1) := by decide +kernel
theorem dX0_squareSum_2 : decode cX0_squareSum 2 = .ok (.imul, 1) := by decide +kernel
theorem dX0_squareSum_3 : decode cX0_squareSum 3 = .ok (.iload_n 1, 1) := by decide +kernel
theorem dX0_squareSum_4 : decode cX0_squareSum 4 = .ok (.iload_n 1, 1) := by decide +kernel
theorem dX0_squareSum_5 : decode cX0_squareSum 5 = .ok (.imul, 1) := by decide +kernel
theorem dX0_squareSum_6 : decode cX0_squareSum 6 = .ok (.iadd, 1) := by decide +kernel
theorem dX0_squareSum_7 : decode cX0_squareSum 7 = .ok (.istore_n 3, 1) := by decide +kernel
theorem dX0_squareSum_8 : decode cX0_squareSum 8 = .ok (.iload_n 2, 1) := by decide +kernel
theorem dX0_squareSum_9 : decode cX0_squareSum 9 = .ok (.ifCond .eq 9, 3) := by decide +kernel
theorem dX0_squareSum_12 : decode cX0_squareSum 12 = .ok (.iconst 4, 1) := by decide +kernel
theorem dX0_squareSum_13 : decode cX0_squareSum 13 = .ok (.iload_n 3, 1) := by decide +kernel
theorem dX0_squareSum_14 : decode cX0_squareSum 14 = .ok (.imul, 1) := by decide +kernel
theorem dX0_squareSum_15 : decode cX0_squareSum 15 = .ok (.goto 4, 3) := by decide +kernel
theorem dX0_squareSum_18 : decode cX0_squareSum 18 = .ok (.iload_n 3, 1) := by decide +kernel
theorem dX0_squareSum_19 : decode cX0_squareSum 19 = .ok (.ireturn, 1) := by decide +kernel
theorem dX0_hypotenuseBits_0 : decode cX0_hypotenuseBits 0 = .ok (.iload_n 0, 1) := by decide +kernel
theorem dX0_hypotenuseBits_1 : decode cX0_hypotenuseBits 1 = .ok (.iload_n 1, 1) := by decide +kernel
theorem dX0_hypotenuseBits_2 : decode cX0_hypotenuseBits 2 = .ok (.iload_n 2, 1) := by decide +kernel
theorem dX0_hypotenuseBits_3 : decode cX0_hypotenuseBits 3 = .ok (.invokestatic 92, 3) := by decide +kernel
theorem dX0_hypotenuseBits_6 : decode cX0_hypotenuseBits 6 = .ok (.invokestatic 122, 3) := by decide +kernel
theorem dX0_hypotenuseBits_9 : decode cX0_hypotenuseBits 9 = .ok (.lreturn, 1) := by decide +kernel
theorem dX0_wholePart_0 : decode cX0_wholePart 0 = .ok (.iload_n 0, 1) := by decide +kernel
theorem dX0_wholePart_1 : decode cX0_wholePart 1 = .ok (.iconst 0, 1) := by decide +kernel
theorem dX0_wholePart_2 : decode cX0_wholePart 2 = .ok (.invokestatic 221, 3) := by decide +kernel
theorem dX0_wholePart_5 : decode cX0_wholePart 5 = .ok (.l2i, 1) := by decide +kernel
theorem dX0_wholePart_6 : decode cX0_wholePart 6 = .ok (.ireturn, 1) := by decide +kernel
theorem dX0_grainsOfRoot_0 : decode cX0_grainsOfRoot 0 = .ok (.iload_n 0, 1) := by decide +kernel
theorem dX0_grainsOfRoot_1 : decode cX0_grainsOfRoot 1 = .ok (.bipush 15, 2) := by decide +kernel
theorem dX0_grainsOfRoot_3 : decode cX0_grainsOfRoot 3 = .ok (.invokestatic 221, 3) := by decide +kernel
theorem dX0_grainsOfRoot_6 : decode cX0_grainsOfRoot 6 = .ok (.lconst 1, 1) := by decide +kernel
theorem dX0_grainsOfRoot_7 : decode cX0_grainsOfRoot 7 = .ok (.ladd, 1) := by decide +kernel
theorem dX0_grainsOfRoot_8 : decode cX0_grainsOfRoot 8 = .ok (.iconst 1, 1) := by decide +kernel
theorem dX0_grainsOfRoot_9 : decode cX0_grainsOfRoot 9 = .ok (.lshr, 1) := by decide +kernel
theorem dX0_grainsOfRoot_10 : decode cX0_grainsOfRoot 10 = .ok (.l2i, 1) := by decide +kernel
theorem dX0_grainsOfRoot_11 : decode cX0_grainsOfRoot 11 = .ok (.ireturn, 1) := by decide +kernel
theorem dX0_rootDigits_0 : decode cX0_rootDigits 0 = .ok (.lconst 0, 1) := by decide +kernel
theorem dX0_rootDigits_1 : decode cX0_rootDigits 1 = .ok (.lstore_n 2, 1) := by decide +kernel
theorem dX0_rootDigits_2 : decode cX0_rootDigits 2 = .ok (.lconst 0, 1) := by decide +kernel
theorem dX0_rootDigits_3 : decode cX0_rootDigits 3 = .ok (.lstore 4, 2) := by decide +kernel
theorem dX0_rootDigits_5 : decode cX0_rootDigits 5 = .ok (.bipush 9, 2) := by decide +kernel
theorem dX0_rootDigits_7 : decode cX0_rootDigits 7 = .ok (.istore 6, 2) := by decide +kernel
theorem dX0_rootDigits_9 : decode cX0_rootDigits 9 = .ok (.iload 6, 2) := by decide +kernel
theorem dX0_rootDigits_11 : decode cX0_rootDigits 11 = .ok (.iload_n 1, 1) := by decide +kernel
theorem dX0_rootDigits_12 : decode cX0_rootDigits 12 = .ok (.ineg, 1) := by decide +kernel
theorem dX0_rootDigits_13 : decode cX0_rootDigits 13 = .ok (.if_icmp .lt 64, 3) := by decide +kernel
theorem dX0_rootDigits_16 : decode cX0_rootDigits 16 = .ok (.lload 4, 2) := by decide +kernel
theorem dX0_rootDigits_18 : decode cX0_rootDigits 18 = .ok (.iconst 2, 1) := by decide +kernel
theorem dX0_rootDigits_19 : decode cX0_rootDigits 19 = .ok (.lshl, 1) := by decide +kernel
theorem dX0_rootDigits_20 : decode cX0_rootDigits 20 = .ok (.iload 6, 2) := by decide +kernel
theorem dX0_rootDigits_22 : decode cX0_rootDigits 22 = .ok (.ifCond .lt 14, 3) := by decide +kernel
theorem dX0_rootDigits_25 : decode cX0_rootDigits 25 = .ok (.iload_n 0, 1) := by decide +kernel
theorem dX0_rootDigits_26 : decode cX0_rootDigits 26 = .ok (.iconst 2, 1) := by decide +kernel
theorem dX0_rootDigits_27 : decode cX0_rootDigits 27 = .ok (.iload 6, 2) := by decide +kernel
theorem dX0_rootDigits_29 : decode cX0_rootDigits 29 = .ok (.imul, 1) := by decide +kernel
theorem dX0_rootDigits_30 : decode cX0_rootDigits 30 = .ok (.ishr, 1) := by decide +kernel
theorem dX0_rootDigits_31 : decode cX0_rootDigits 31 = .ok (.iconst 3, 1) := by decide +kernel
theorem dX0_rootDigits_32 : decode cX0_rootDigits 32 = .ok (.iand, 1) := by decide +kernel
theorem dX0_rootDigits_33 : decode cX0_rootDigits 33 = .ok (.goto 4, 3) := by decide +kernel
theorem dX0_rootDigits_36 : decode cX0_rootDigits 36 = .ok (.iconst 0, 1) := by decide +kernel
theorem dX0_rootDigits_37 : decode cX0_rootDigits 37 = .ok (.i2l, 1) := by decide +kernel
theorem dX0_rootDigits_38 : decode cX0_rootDigits 38 = .ok (.ladd, 1) := by decide +kernel
theorem dX0_rootDigits_39 : decode cX0_rootDigits 39 = .ok (.lstore 4, 2) := by decide +kernel
theorem dX0_rootDigits_41 : decode cX0_rootDigits 41 = .ok (.lload_n 2, 1) := by decide +kernel
theorem dX0_rootDigits_42 : decode cX0_rootDigits 42 = .ok (.iconst 2, 1) := by decide +kernel
theorem dX0_rootDigits_43 : decode cX0_rootDigits 43 = .ok (.lshl, 1) := by decide +kernel
theorem dX0_rootDigits_44 : decode cX0_rootDigits 44 = .ok (.lconst 1, 1) := by decide +kernel
theorem dX0_rootDigits_45 : decode cX0_rootDigits 45 = .ok (.ladd, 1) := by decide +kernel
theorem dX0_rootDigits_46 : decode cX0_rootDigits 46 = .ok (.lstore 7, 2) := by decide +kernel
theorem dX0_rootDigits_48 : decode cX0_rootDigits 48 = .ok (.lload_n 2, 1) := by decide +kernel
theorem dX0_rootDigits_49 : decode cX0_rootDigits 49 = .ok (.iconst 1, 1) := by decide +kernel
theorem dX0_rootDigits_50 : decode cX0_rootDigits 50 = .ok (.lshl, 1) := by decide +kernel
theorem dX0_rootDigits_51 : decode cX0_rootDigits 51 = .ok (.lstore_n 2, 1) := by decide +kernel
theorem dX0_rootDigits_52 : decode cX0_rootDigits 52 = .ok (.lload 4, 2) := by decide +kernel
theorem dX0_rootDigits_54 : decode cX0_rootDigits 54 = .ok (.lload 7, 2) := by decide +kernel
theorem dX0_rootDigits_56 : decode cX0_rootDigits 56 = .ok (.lcmp, 1) := by decide +kernel
theorem dX0_rootDigits_57 : decode cX0_rootDigits 57 = .ok (.ifCond .lt 14, 3) := by decide +kernel
theorem dX0_rootDigits_60 : decode cX0_rootDigits 60 = .ok (.lload 4, 2) := by decide +kernel
theorem dX0_rootDigits_62 : decode cX0_rootDigits 62 = .ok (.lload 7, 2) := by decide +kernel
theorem dX0_rootDigits_64 : decode cX0_rootDigits 64 = .ok (.lsub, 1) := by decide +kernel
theorem dX0_rootDigits_65 : decode cX0_rootDigits 65 = .ok (.lstore 4, 2) := by decide +kernel
theorem dX0_rootDigits_67 : decode cX0_rootDigits 67 = .ok (.lload_n 2, 1) := by decide +kernel
theorem dX0_rootDigits_68 : decode cX0_rootDigits 68 = .ok (.lconst 1, 1) := by decide +kernel
theorem dX0_rootDigits_69 : decode cX0_rootDigits 69 = .ok (.ladd, 1) := by decide +kernel
theorem dX0_rootDigits_70 : decode cX0_rootDigits 70 = .ok (.lstore_n 2, 1) := by decide +kernel
theorem dX0_rootDigits_71 : decode cX0_rootDigits 71 = .ok (.iinc 6 (-1), 3) := by decide +kernel
theorem dX0_rootDigits_74 : decode cX0_rootDigits 74 = .ok (.goto (-65), 3) := by decide +kernel
theorem dX0_rootDigits_77 : decode cX0_rootDigits 77 = .ok (.lload_n 2, 1) := by decide +kernel
theorem dX0_rootDigits_78 : decode cX0_rootDigits 78 = .ok (.lreturn, 1) := by decide +kernel
theorem dX0_bitsOfRoot_0 : decode cX0_bitsOfRoot 0 = .ok (.iload_n 0, 1) := by decide +kernel
theorem dX0_bitsOfRoot_1 : decode cX0_bitsOfRoot 1 = .ok (.ifCond .gt 5, 3) := by decide +kernel
theorem dX0_bitsOfRoot_4 : decode cX0_bitsOfRoot 4 = .ok (.lconst 0, 1) := by decide +kernel
theorem dX0_bitsOfRoot_5 : decode cX0_bitsOfRoot 5 = .ok (.lreturn, 1) := by decide +kernel
theorem dX0_bitsOfRoot_6 : decode cX0_bitsOfRoot 6 = .ok (.iload_n 0, 1) := by decide +kernel
theorem dX0_bitsOfRoot_7 : decode cX0_bitsOfRoot 7 = .ok (.invokestatic 225, 3) := by decide +kernel
theorem dX0_bitsOfRoot_10 : decode cX0_bitsOfRoot 10 = .ok (.istore_n 1, 1) := by decide +kernel
theorem dX0_bitsOfRoot_11 : decode cX0_bitsOfRoot 11 = .ok (.iload_n 0, 1) := by decide +kernel
theorem dX0_bitsOfRoot_12 : decode cX0_bitsOfRoot 12 = .ok (.bipush 53, 2) := by decide +kernel
theorem dX0_bitsOfRoot_14 : decode cX0_bitsOfRoot 14 = .ok (.iload_n 1, 1) := by decide +kernel
theorem dX0_bitsOfRoot_15 : decode cX0_bitsOfRoot 15 = .ok (.isub, 1) := by decide +kernel
theorem dX0_bitsOfRoot_16 : decode cX0_bitsOfRoot 16 = .ok (.invokestatic 221, 3) := by decide +kernel
theorem dX0_bitsOfRoot_19 : decode cX0_bitsOfRoot 19 = .ok (.lconst 1, 1) := by decide +kernel
theorem dX0_bitsOfRoot_20 : decode cX0_bitsOfRoot 20 = .ok (.ladd, 1) := by decide +kernel
theorem dX0_bitsOfRoot_21 : decode cX0_bitsOfRoot 21 = .ok (.iconst 1, 1) := by decide +kernel
theorem dX0_bitsOfRoot_22 : decode cX0_bitsOfRoot 22 = .ok (.lshr, 1) := by decide +kernel
theorem dX0_bitsOfRoot_23 : decode cX0_bitsOfRoot 23 = .ok (.lstore_n 2, 1) := by decide +kernel
theorem dX0_bitsOfRoot_24 : decode cX0_bitsOfRoot 24 = .ok (.sipush 1023, 3) := by decide +kernel
theorem dX0_bitsOfRoot_27 : decode cX0_bitsOfRoot 27 = .ok (.iload_n 1, 1) := by decide +kernel
theorem dX0_bitsOfRoot_28 : decode cX0_bitsOfRoot 28 = .ok (.iadd, 1) := by decide +kernel
theorem dX0_bitsOfRoot_29 : decode cX0_bitsOfRoot 29 = .ok (.iconst 2, 1) := by decide +kernel
theorem dX0_bitsOfRoot_30 : decode cX0_bitsOfRoot 30 = .ok (.isub, 1) := by decide +kernel
theorem dX0_bitsOfRoot_31 : decode cX0_bitsOfRoot 31 = .ok (.i2l, 1) := by decide +kernel
theorem dX0_bitsOfRoot_32 : decode cX0_bitsOfRoot 32 = .ok (.lstore 4, 2) := by decide +kernel
theorem dX0_bitsOfRoot_34 : decode cX0_bitsOfRoot 34 = .ok (.lload 4, 2) := by decide +kernel
theorem dX0_bitsOfRoot_36 : decode cX0_bitsOfRoot 36 = .ok (.bipush 52, 2) := by decide +kernel
theorem dX0_bitsOfRoot_38 : decode cX0_bitsOfRoot 38 = .ok (.lshl, 1) := by decide +kernel
theorem dX0_bitsOfRoot_39 : decode cX0_bitsOfRoot 39 = .ok (.lload_n 2, 1) := by decide +kernel
theorem dX0_bitsOfRoot_40 : decode cX0_bitsOfRoot 40 = .ok (.ldc2_w 228, 3) := by decide +kernel
theorem dX0_bitsOfRoot_43 : decode cX0_bitsOfRoot 43 = .ok (.lsub, 1) := by decide +kernel
theorem dX0_bitsOfRoot_44 : decode cX0_bitsOfRoot 44 = .ok (.ladd, 1) := by decide +kernel
theorem dX0_bitsOfRoot_45 : decode cX0_bitsOfRoot 45 = .ok (.lreturn, 1) := by decide +kernel
theorem dX0_highestPair_0 : decode cX0_highestPair 0 = .ok (.bipush 9, 2) := by decide +kernel
theorem dX0_highestPair_2 : decode cX0_highestPair 2 = .ok (.istore_n 1, 1) := by decide +kernel
theorem dX0_highestPair_3 : decode cX0_highestPair 3 = .ok (.iload_n 1, 1) := by decide +kernel
theorem dX0_highestPair_4 : decode cX0_highestPair 4 = .ok (.ifCond .le 17, 3) := by decide +kernel
theorem dX0_highestPair_7 : decode cX0_highestPair 7 = .ok (.iload_n 0, 1) := by decide +kernel
theorem dX0_highestPair_8 : decode cX0_highestPair 8 = .ok (.iconst 2, 1) := by decide +kernel
theorem dX0_highestPair_9 : decode cX0_highestPair 9 = .ok (.iload_n 1, 1) := by decide +kernel
theorem dX0_highestPair_10 : decode cX0_highestPair 10 = .ok (.imul, 1) := by decide +kernel
theorem dX0_highestPair_11 : decode cX0_highestPair 11 = .ok (.ishr, 1) := by decide +kernel
theorem dX0_highestPair_12 : decode cX0_highestPair 12 = .ok (.ifCond .ne 9, 3) := by decide +kernel
theorem dX0_highestPair_15 : decode cX0_highestPair 15 = .ok (.iinc 1 (-1), 3) := by decide +kernel
theorem dX0_highestPair_18 : decode cX0_highestPair 18 = .ok (.goto (-15), 3) := by decide +kernel
theorem dX0_highestPair_21 : decode cX0_highestPair 21 = .ok (.iload_n 1, 1) := by decide +kernel
theorem dX0_highestPair_22 : decode cX0_highestPair 22 = .ok (.ireturn, 1) := by decide +kernel
theorem dX0_unitsOf_0 : decode cX0_unitsOf 0 = .ok (.lload_n 0, 1) := by decide +kernel
theorem dX0_unitsOf_1 : decode cX0_unitsOf 1 = .ok (.ldc2_w 230, 3) := by decide +kernel
theorem dX0_unitsOf_4 : decode cX0_unitsOf 4 = .ok (.land, 1) := by decide +kernel
theorem dX0_unitsOf_5 : decode cX0_unitsOf 5 = .ok (.ldc2_w 228, 3) := by decide +kernel
theorem dX0_unitsOf_8 : decode cX0_unitsOf 8 = .ok (.lor, 1) := by decide +kernel
theorem dX0_unitsOf_9 : decode cX0_unitsOf 9 = .ok (.lreturn, 1) := by decide +kernel
theorem dX0_placesAfterPoint_0 : decode cX0_placesAfterPoint 0 = .ok (.sipush 1075, 3) := by decide +kernel
theorem dX0_placesAfterPoint_3 : decode cX0_placesAfterPoint 3 = .ok (.lload_n 0, 1) := by decide +kernel
theorem dX0_placesAfterPoint_4 : decode cX0_placesAfterPoint 4 = .ok (.bipush 52, 2) := by decide +kernel
theorem dX0_placesAfterPoint_6 : decode cX0_placesAfterPoint 6 = .ok (.lushr, 1) := by decide +kernel
theorem dX0_placesAfterPoint_7 : decode cX0_placesAfterPoint 7 = .ok (.l2i, 1) := by decide +kernel
theorem dX0_placesAfterPoint_8 : decode cX0_placesAfterPoint 8 = .ok (.isub, 1) := by decide +kernel
theorem dX0_placesAfterPoint_9 : decode cX0_placesAfterPoint 9 = .ok (.ireturn, 1) := by decide +kernel
theorem dX0_twice_0 : decode cX0_twice 0 = .ok (.lload_n 0, 1) := by decide +kernel
theorem dX0_twice_1 : decode cX0_twice 1 = .ok (.lconst 0, 1) := by decide +kernel
theorem dX0_twice_2 : decode cX0_twice 2 = .ok (.lcmp, 1) := by decide +kernel
theorem dX0_twice_3 : decode cX0_twice 3 = .ok (.ifCond .ne 7, 3) := by decide +kernel
theorem dX0_twice_6 : decode cX0_twice 6 = .ok (.lconst 0, 1) := by decide +kernel
theorem dX0_twice_7 : decode cX0_twice 7 = .ok (.goto 8, 3) := by decide +kernel
theorem dX0_twice_10 : decode cX0_twice 10 = .ok (.lload_n 0, 1) := by decide +kernel
theorem dX0_twice_11 : decode cX0_twice 11 = .ok (.ldc2_w 228, 3) := by decide +kernel
theorem dX0_twice_14 : decode cX0_twice 14 = .ok (.ladd, 1) := by decide +kernel
theorem dX0_twice_15 : decode cX0_twice 15 = .ok (.lreturn, 1) := by decide +kernel
theorem dX0_doubleOf_0 : decode cX0_doubleOf 0 = .ok (.lload_n 0, 1) := by decide +kernel
theorem dX0_doubleOf_1 : decode cX0_doubleOf 1 = .ok (.lconst 0, 1) := by decide +kernel
theorem dX0_doubleOf_2 : decode cX0_doubleOf 2 = .ok (.lcmp, 1) := by decide +kernel
theorem dX0_doubleOf_3 : decode cX0_doubleOf 3 = .ok (.ifCond .ne 5, 3) := by decide +kernel
theorem dX0_doubleOf_6 : decode cX0_doubleOf 6 = .ok (.dconst 0, 1) := by decide +kernel
theorem dX0_doubleOf_7 : decode cX0_doubleOf 7 = .ok (.dreturn, 1) := by decide +kernel
theorem dX0_doubleOf_8 : decode cX0_doubleOf 8 = .ok (.lconst 1, 1) := by decide +kernel
theorem dX0_doubleOf_9 : decode cX0_doubleOf 9 = .ok (.lload_n 0, 1) := by decide +kernel
theorem dX0_doubleOf_10 : decode cX0_doubleOf 10 = .ok (.invokestatic 99, 3) := by decide +kernel
theorem dX0_doubleOf_13 : decode cX0_doubleOf 13 = .ok (.lshl, 1) := by decide +kernel
theorem dX0_doubleOf_14 : decode cX0_doubleOf 14 = .ok (.l2d, 1) := by decide +kernel
theorem dX0_doubleOf_15 : decode cX0_doubleOf 15 = .ok (.dstore_n 2, 1) := by decide +kernel
theorem dX0_doubleOf_16 : decode cX0_doubleOf 16 = .ok (.dload_n 2, 1) := by decide +kernel
theorem dX0_doubleOf_17 : decode cX0_doubleOf 17 = .ok (.dconst 1, 1) := by decide +kernel
theorem dX0_doubleOf_18 : decode cX0_doubleOf 18 = .ok (.dcmp .l, 1) := by decide +kernel
theorem dX0_doubleOf_19 : decode cX0_doubleOf 19 = .ok (.ifCond .lt 13, 3) := by decide +kernel
theorem dX0_doubleOf_22 : decode cX0_doubleOf 22 = .ok (.lload_n 0, 1) := by decide +kernel
theorem dX0_doubleOf_23 : decode cX0_doubleOf 23 = .ok (.invokestatic 96, 3) := by decide +kernel
theorem dX0_doubleOf_26 : decode cX0_doubleOf 26 = .ok (.l2d, 1) := by decide +kernel
theorem dX0_doubleOf_27 : decode cX0_doubleOf 27 = .ok (.dload_n 2, 1) := by decide +kernel
theorem dX0_doubleOf_28 : decode cX0_doubleOf 28 = .ok (.ddiv, 1) := by decide +kernel
theorem dX0_doubleOf_29 : decode cX0_doubleOf 29 = .ok (.goto 4, 3) := by decide +kernel
theorem dX0_doubleOf_32 : decode cX0_doubleOf 32 = .ok (.dconst 0, 1) := by decide +kernel
theorem dX0_doubleOf_33 : decode cX0_doubleOf 33 = .ok (.dreturn, 1) := by decide +kernel
theorem dX0_compareSquare_0 : decode cX0_compareSquare 0 = .ok (.lload_n 0, 1) := by decide +kernel
theorem dX0_compareSquare_1 : decode cX0_compareSquare 1 = .ok (.bipush 27, 2) := by decide +kernel
theorem dX0_compareSquare_3 : decode cX0_compareSquare 3 = .ok (.lshr, 1) := by decide +kernel
theorem dX0_compareSquare_4 : decode cX0_compareSquare 4 = .ok (.lstore 4, 2) := by decide +kernel
theorem dX0_compareSquare_6 : decode cX0_compareSquare 6 = .ok (.lload_n 0, 1) := by decide +kernel
theorem dX0_compareSquare_7 : decode cX0_compareSquare 7 = .ok (.ldc2_w 232, 3) := by decide +kernel
theorem dX0_compareSquare_10 : decode cX0_compareSquare 10 = .ok (.land, 1) := by decide +kernel
theorem dX0_compareSquare_11 : decode cX0_compareSquare 11 = .ok (.lstore 6, 2) := by decide +kernel
theorem dX0_compareSquare_13 : decode cX0_compareSquare 13 = .ok (.ldc2_w 133, 3) := by decide +kernel
theorem dX0_compareSquare_16 : decode cX0_compareSquare 16 = .ok (.lload 4, 2) := by decide +kernel
theorem dX0_compareSquare_18 : decode cX0_compareSquare 18 = .ok (.lmul, 1) := by decide +kernel
theorem dX0_compareSquare_19 : decode cX0_compareSquare 19 = .ok (.lload 6, 2) := by decide +kernel
theorem dX0_compareSquare_21 : decode cX0_compareSquare 21 = .ok (.lmul, 1) := by decide +kernel
theorem dX0_compareSquare_22 : decode cX0_compareSquare 22 = .ok (.lstore 8, 2) := by decide +kernel
theorem dX0_compareSquare_24 : decode cX0_compareSquare 24 = .ok (.lload 6, 2) := by decide +kernel
theorem dX0_compareSquare_26 : decode cX0_compareSquare 26 = .ok (.lload 6, 2) := by decide +kernel
theorem dX0_compareSquare_28 : decode cX0_compareSquare 28 = .ok (.lmul, 1) := by decide +kernel
theorem dX0_compareSquare_29 : decode cX0_compareSquare 29 = .ok (.lload 8, 2) := by decide +kernel
theorem dX0_compareSquare_31 : decode cX0_compareSquare 31 = .ok (.ldc2_w 232, 3) := by decide +kernel
theorem dX0_compareSquare_34 : decode cX0_compareSquare 34 = .ok (.land, 1) := by decide +kernel
theorem dX0_compareSquare_35 : decode cX0_compareSquare 35 = .ok (.bipush 27, 2) := by decide +kernel
theorem dX0_compareSquare_37 : decode cX0_compareSquare 37 = .ok (.lshl, 1) := by decide +kernel
theorem dX0_compareSquare_38 : decode cX0_compareSquare 38 = .ok (.ladd, 1) := by decide +kernel
theorem dX0_compareSquare_39 : decode cX0_compareSquare 39 = .ok (.lstore 10, 2) := by decide +kernel
theorem dX0_compareSquare_41 : decode cX0_compareSquare 41 = .ok (.lload 4, 2) := by decide +kernel
theorem dX0_compareSquare_43 : decode cX0_compareSquare 43 = .ok (.lload 4, 2) := by decide +kernel
theorem dX0_compareSquare_45 : decode cX0_compareSquare 45 = .ok (.lmul, 1) := by decide +kernel
theorem dX0_compareSquare_46 : decode cX0_compareSquare 46 = .ok (.lload 8, 2) := by decide +kernel
theorem dX0_compareSquare_48 : decode cX0_compareSquare 48 = .ok (.bipush 27, 2) := by decide +kernel
theorem dX0_compareSquare_50 : decode cX0_compareSquare 50 = .ok (.lshr, 1) := by decide +kernel
theorem dX0_compareSquare_51 : decode cX0_compareSquare 51 = .ok (.ladd, 1) := by decide +kernel
theorem dX0_compareSquare_52 : decode cX0_compareSquare 52 = .ok (.lload 10, 2) := by decide +kernel
theorem dX0_compareSquare_54 : decode cX0_compareSquare 54 = .ok (.bipush 54, 2) := by decide +kernel
theorem dX0_compareSquare_56 : decode cX0_compareSquare 56 = .ok (.lshr, 1) := by decide +kernel
theorem dX0_compareSquare_57 : decode cX0_compareSquare 57 = .ok (.ladd, 1) := by decide +kernel
theorem dX0_compareSquare_58 : decode cX0_compareSquare 58 = .ok (.lstore 12, 2) := by decide +kernel
theorem dX0_compareSquare_60 : decode cX0_compareSquare 60 = .ok (.lload 10, 2) := by decide +kernel
theorem dX0_compareSquare_62 : decode cX0_compareSquare 62 = .ok (.ldc2_w 234, 3) := by decide +kernel
theorem dX0_compareSquare_65 : decode cX0_compareSquare 65 = .ok (.land, 1) := by decide +kernel
theorem dX0_compareSquare_66 : decode cX0_compareSquare 66 = .ok (.lconst 0, 1) := by decide +kernel
theorem dX0_compareSquare_67 : decode cX0_compareSquare 67 = .ok (.lcmp, 1) := by decide +kernel
theorem dX0_compareSquare_68 : decode cX0_compareSquare 68 = .ok (.ifCond .eq 7, 3) := by decide +kernel
theorem dX0_compareSquare_71 : decode cX0_compareSquare 71 = .ok (.iconst 1, 1) := by decide +kernel
theorem dX0_compareSquare_72 : decode cX0_compareSquare 72 = .ok (.goto 4, 3) := by decide +kernel
theorem dX0_compareSquare_75 : decode cX0_compareSquare 75 = .ok (.iconst 0, 1) := by decide +kernel
theorem dX0_compareSquare_76 : decode cX0_compareSquare 76 = .ok (.istore 14, 2) := by decide +kernel
theorem dX0_compareSquare_78 : decode cX0_compareSquare 78 = .ok (.iload_n 3, 1) := by decide +kernel
theorem dX0_compareSquare_79 : decode cX0_compareSquare 79 = .ok (.i2l, 1) := by decide +kernel
theorem dX0_compareSquare_80 : decode cX0_compareSquare 80 = .ok (.iconst 2, 1) := by decide +kernel
theorem dX0_compareSquare_81 : decode cX0_compareSquare 81 = .ok (.iload_n 2, 1) := by decide +kernel
theorem dX0_compareSquare_82 : decode cX0_compareSquare 82 = .ok (.imul, 1) := by decide +kernel
theorem dX0_compareSquare_83 : decode cX0_compareSquare 83 = .ok (.iconst 4, 1) := by decide +kernel
theorem dX0_compareSquare_84 : decode cX0_compareSquare 84 = .ok (.isub, 1) := by decide +kernel
theorem dX0_compareSquare_85 : decode cX0_compareSquare 85 = .ok (.bipush 54, 2) := by decide +kernel
theorem dX0_compareSquare_87 : decode cX0_compareSquare 87 = .ok (.isub, 1) := by decide +kernel
theorem dX0_compareSquare_88 : decode cX0_compareSquare 88 = .ok (.lshl, 1) := by decide +kernel
theorem dX0_compareSquare_89 : decode cX0_compareSquare 89 = .ok (.lstore 15, 2) := by decide +kernel
theorem dX0_compareSquare_91 : decode cX0_compareSquare 91 = .ok (.lload 12, 2) := by decide +kernel
theorem dX0_compareSquare_93 : decode cX0_compareSquare 93 = .ok (.lload 15, 2) := by decide +kernel
theorem dX0_compareSquare_95 : decode cX0_compareSquare 95 = .ok (.lcmp, 1) := by decide +kernel
theorem dX0_compareSquare_96 : decode cX0_compareSquare 96 = .ok (.ifCond .eq 17, 3) := by decide +kernel
theorem dX0_compareSquare_99 : decode cX0_compareSquare 99 = .ok (.lload 12, 2) := by decide +kernel
theorem dX0_compareSquare_101 : decode cX0_compareSquare 101 = .ok (.lload 15, 2) := by decide +kernel
theorem dX0_compareSquare_103 : decode cX0_compareSquare 103 = .ok (.lcmp, 1) := by decide +kernel
theorem dX0_compareSquare_104 : decode cX0_compareSquare 104 = .ok (.ifCond .ge 7, 3) := by decide +kernel
theorem dX0_compareSquare_107 : decode cX0_compareSquare 107 = .ok (.iconst (-1), 1) := by decide +kernel
theorem dX0_compareSquare_108 : decode cX0_compareSquare 108 = .ok (.goto 4, 3) := by decide +kernel
theorem dX0_compareSquare_111 : decode cX0_compareSquare 111 = .ok (.iconst 1, 1) := by decide +kernel
theorem dX0_compareSquare_112 : decode cX0_compareSquare 112 = .ok (.ireturn, 1) := by decide +kernel
theorem dX0_compareSquare_113 : decode cX0_compareSquare 113 = .ok (.iload 14, 2) := by decide +kernel
theorem dX0_compareSquare_115 : decode cX0_compareSquare 115 = .ok (.ifCond .eq 7, 3) := by decide +kernel
theorem dX0_compareSquare_118 : decode cX0_compareSquare 118 = .ok (.iconst 1, 1) := by decide +kernel
theorem dX0_compareSquare_119 : decode cX0_compareSquare 119 = .ok (.goto 4, 3) := by decide +kernel
theorem dX0_compareSquare_122 : decode cX0_compareSquare 122 = .ok (.iconst 0, 1) := by decide +kernel
theorem dX0_compareSquare_123 : decode cX0_compareSquare 123 = .ok (.ireturn, 1) := by decide +kernel
end
section
theorem dX1_init_0 : decode cX1_init 0 = .ok (.aload_n 0, 1) := by decide +kernel
theorem dX1_init_1 : decode cX1_init 1 = .ok (.invokespecial 1, 3) := by decide +kernel
theorem dX1_init_4 : decode cX1_init 4 = .ok (.aload_n 0, 1) := by decide +kernel
theorem dX1_init_5 : decode cX1_init 5 = .ok (.bipush 12, 2) := by decide +kernel
theorem dX1_init_7 : decode cX1_init 7 = .ok (.newarray .boolean, 2) := by decide +kernel
theorem dX1_init_9 : decode cX1_init 9 = .ok (.putfield 7, 3) := by decide +kernel
theorem dX1_init_12 : decode cX1_init 12 = .ok (.aload_n 0, 1) := by decide +kernel
theorem dX1_init_13 : decode cX1_init 13 = .ok (.bipush 12, 2) := by decide +kernel
theorem dX1_init_15 : decode cX1_init 15 = .ok (.newarray .int, 2) := by decide +kernel
theorem dX1_init_17 : decode cX1_init 17 = .ok (.putfield 13, 3) := by decide +kernel
theorem dX1_init_20 : decode cX1_init 20 = .ok (.aload_n 0, 1) := by decide +kernel
theorem dX1_init_21 : decode cX1_init 21 = .ok (.bipush 12, 2) := by decide +kernel
theorem dX1_init_23 : decode cX1_init 23 = .ok (.newarray .int, 2) := by decide +kernel
theorem dX1_init_25 : decode cX1_init 25 = .ok (.putfield 17, 3) := by decide +kernel
theorem dX1_init_28 : decode cX1_init 28 = .ok (.aload_n 0, 1) := by decide +kernel
theorem dX1_init_29 : decode cX1_init 29 = .ok (.bipush 12, 2) := by decide +kernel
theorem dX1_init_31 : decode cX1_init 31 = .ok (.newarray .int, 2) := by decide +kernel
theorem dX1_init_33 : decode cX1_init 33 = .ok (.putfield 20, 3) := by decide +kernel
theorem dX1_init_36 : decode cX1_init 36 = .ok (.aload_n 0, 1) := by decide +kernel
theorem dX1_init_37 : decode cX1_init 37 = .ok (.iconst 0, 1) := by decide +kernel
theorem dX1_init_38 : decode cX1_init 38 = .ok (.putfield 23, 3) := by decide +kernel
theorem dX1_init_41 : decode cX1_init 41 = .ok (.return_, 1) := by decide +kernel
theorem dX1_thrown_0 : decode cX1_thrown 0 = .ok (.aload_n 0, 1) := by decide +kernel
theorem dX1_thrown_1 : decode cX1_thrown 1 = .ok (.getfield 23, 3) := by decide +kernel
theorem dX1_thrown_4 : decode cX1_thrown 4 = .ok (.ireturn, 1) := by decide +kernel
theorem dX1_isThrown_0 : decode cX1_isThrown 0 = .ok (.aload_n 0, 1) := by decide +kernel
theorem dX1_isThrown_1 : decode cX1_isThrown 1 = .ok (.iload_n 1, 1) := by decide +kernel
theorem dX1_isThrown_2 : decode cX1_isThrown 2 = .ok (.ifCond .eq 7, 3) := by decide +kernel
theorem dX1_isThrown_5 : decode cX1_isThrown 5 = .ok (.iload_n 2, 1) := by decide +kernel
theorem dX1_isThrown_6 : decode cX1_isThrown 6 = .ok (.goto 4, 3) := by decide +kernel
theorem dX1_isThrown_9 : decode cX1_isThrown 9 = .ok (.iconst 0, 1) := by decide +kernel
theorem dX1_isThrown_10 : decode cX1_isThrown 10 = .ok (.putfield 23, 3) := by decide +kernel
theorem dX1_isThrown_13 : decode cX1_isThrown 13 = .ok (.iload_n 1, 1) := by decide +kernel
theorem dX1_isThrown_14 : decode cX1_isThrown 14 = .ok (.ireturn, 1) := by decide +kernel
theorem dX1_lies_0 : decode cX1_lies 0 = .ok (.iload_n 1, 1) := by decide +kernel
theorem dX1_lies_1 : decode cX1_lies 1 = .ok (.iload_n 0, 1) := by decide +kernel
theorem dX1_lies_2 : decode cX1_lies 2 = .ok (.if_icmp .gt 12, 3) := by decide +kernel
theorem dX1_lies_5 : decode cX1_lies 5 = .ok (.iload_n 0, 1) := by decide +kernel
theorem dX1_lies_6 : decode cX1_lies 6 = .ok (.iload_n 2, 1) := by decide +kernel
theorem dX1_lies_7 : decode cX1_lies 7 = .ok (.if_icmp .gt 7, 3) := by decide +kernel
theorem dX1_lies_10 : decode cX1_lies 10 = .ok (.iconst 1, 1) := by decide +kernel
theorem dX1_lies_11 : decode cX1_lies 11 = .ok (.goto 4, 3) := by decide +kernel
theorem dX1_lies_14 : decode cX1_lies 14 = .ok (.iconst 0, 1) := by decide +kernel
theorem dX1_lies_15 : decode cX1_lies 15 = .ok (.ireturn, 1) := by decide +kernel
theorem dX1_isNoNumber_0 : decode cX1_isNoNumber 0 = .ok (.aload_n 0, 1) := by decide +kernel
theorem dX1_isNoNumber_1 : decode cX1_isNoNumber 1 = .ok (.iload_n 1, 1) := by decide +kernel
theorem dX1_isNoNumber_2 : decode cX1_isNoNumber 2 = .ok (.iconst 0, 1) := by decide +kernel
theorem dX1_isNoNumber_3 : decode cX1_isNoNumber 3 = .ok (.bipush 11, 2) := by decide +kernel
theorem dX1_isNoNumber_5 : decode cX1_isNoNumber 5 = .ok (.invokestatic 27, 3) := by decide +kernel
theorem dX1_isNoNumber_8 : decode cX1_isNoNumber 8 = .ok (.ifCond .ne 7, 3) := by decide +kernel
theorem dX1_isNoNumber_11 : decode cX1_isNoNumber 11 = .ok (.iconst 1, 1) := by decide +kernel
theorem dX1_isNoNumber_12 : decode cX1_isNoNumber 12 = .ok (.goto 4, 3) := by decide +kernel
theorem dX1_isNoNumber_15 : decode cX1_isNoNumber 15 = .ok (.iconst 0, 1) := by decide +kernel
theorem dX1_isNoNumber_16 : decode cX1_isNoNumber 16 = .ok (.iconst 1, 1) := by decide +kernel
theorem dX1_isNoNumber_17 : decode cX1_isNoNumber 17 = .ok (.invokevirtual 31, 3) := by decide +kernel
theorem dX1_isNoNumber_20 : decode cX1_isNoNumber 20 = .ok (.ireturn, 1) := by decide +kernel
theorem dX1_isNoPeg_0 : decode cX1_isNoPeg 0 = .ok (.aload_n 0, 1) := by decide +kernel
theorem dX1_isNoPeg_1 : decode cX1_isNoPeg 1 = .ok (.iload_n 1, 1) := by decide +kernel
theorem dX1_isNoPeg_2 : decode cX1_isNoPeg 2 = .ok (.invokevirtual 35, 3) := by decide +kernel
theorem dX1_isNoPeg_5 : decode cX1_isNoPeg 5 = .ok (.ifCond .ne 25, 3) := by decide +kernel
theorem dX1_isNoPeg_8 : decode cX1_isNoPeg 8 = .ok (.aload_n 0, 1) := by decide +kernel
theorem dX1_isNoPeg_9 : decode cX1_isNoPeg 9 = .ok (.aload_n 0, 1) := by decide +kernel
theorem dX1_isNoPeg_10 : decode cX1_isNoPeg 10 = .ok (.getfield 7, 3) := by decide +kernel
theorem dX1_isNoPeg_13 : decode cX1_isNoPeg 13 = .ok (.iload_n 1, 1) := by decide +kernel
theorem dX1_isNoPeg_14 : decode cX1_isNoPeg 14 = .ok (.baload, 1) := by decide +kernel
theorem dX1_isNoPeg_15 : decode cX1_isNoPeg 15 = .ok (.ifCond .ne 7, 3) := by decide +kernel
theorem dX1_isNoPeg_18 : decode cX1_isNoPeg 18 = .ok (.iconst 1, 1) := by decide +kernel
theorem dX1_isNoPeg_19 : decode cX1_isNoPeg 19 = .ok (.goto 4, 3) := by decide +kernel
theorem dX1_isNoPeg_22 : decode cX1_isNoPeg 22 = .ok (.iconst 0, 1) := by decide +kernel
theorem dX1_isNoPeg_23 : decode cX1_isNoPeg 23 = .ok (.iconst 2, 1) := by decide +kernel
theorem dX1_isNoPeg_24 : decode cX1_isNoPeg 24 = .ok (.invokevirtual 31, 3) := by decide +kernel
theorem dX1_isNoPeg_27 : decode cX1_isNoPeg 27 = .ok (.ifCond .eq 7, 3) := by decide +kernel
theorem dX1_isNoPeg_30 : decode cX1_isNoPeg 30 = .ok (.iconst 1, 1) := by decide +kernel
theorem dX1_isNoPeg_31 : decode cX1_isNoPeg 31 = .ok (.goto 4, 3) := by decide +kernel
theorem dX1_isNoPeg_34 : decode cX1_isNoPeg 34 = .ok (.iconst 0, 1) := by decide +kernel
theorem dX1_isNoPeg_35 : decode cX1_isNoPeg 35 = .ok (.ireturn, 1) := by decide +kernel
theorem dX1_isNoPair_0 : decode cX1_isNoPair 0 = .ok (.aload_n 0, 1) := by decide +kernel
theorem dX1_isNoPair_1 : decode cX1_isNoPair 1 = .ok (.iload_n 1, 1) := by decide +kernel
theorem dX1_isNoPair_2 : decode cX1_isNoPair 2 = .ok (.invokevirtual 35, 3) := by decide +kernel
theorem dX1_isNoPair_5 : decode cX1_isNoPair 5 = .ok (.ifCond .ne 42, 3) := by decide +kernel
theorem dX1_isNoPair_8 : decode cX1_isNoPair 8 = .ok (.aload_n 0, 1) := by decide +kernel
theorem dX1_isNoPair_9 : decode cX1_isNoPair 9 = .ok (.iload_n 2, 1) := by decide +kernel
theorem dX1_isNoPair_10 : decode cX1_isNoPair 10 = .ok (.invokevirtual 35, 3) := by decide +kernel
theorem dX1_isNoPair_13 : decode cX1_isNoPair 13 = .ok (.ifCond .ne 34, 3) := by decide +kernel
theorem dX1_isNoPair_16 : decode cX1_isNoPair 16 = .ok (.aload_n 0, 1) := by decide +kernel
theorem dX1_isNoPair_17 : decode cX1_isNoPair 17 = .ok (.aload_n 0, 1) := by decide +kernel
theorem dX1_isNoPair_18 : decode cX1_isNoPair 18 = .ok (.getfield 7, 3) := by decide +kernel
theorem dX1_isNoPair_21 : decode cX1_isNoPair 21 = .ok (.iload_n 1, 1) := by decide +kernel
theorem dX1_isNoPair_22 : decode cX1_isNoPair 22 = .ok (.baload, 1) := by decide +kernel
theorem dX1_isNoPair_23 : decode cX1_isNoPair 23 = .ok (.ifCond .eq 12, 3) := by decide +kernel
theorem dX1_isNoPair_26 : decode cX1_isNoPair 26 = .ok (.aload_n 0, 1) := by decide +kernel
theorem dX1_isNoPair_27 : decode cX1_isNoPair 27 = .ok (.getfield 7, 3) := by decide +kernel
theorem dX1_isNoPair_30 : decode cX1_isNoPair 30 = .ok (.iload_n 2, 1) := by decide +kernel
theorem dX1_isNoPair_31 : decode cX1_isNoPair 31 = .ok (.baload, 1) := by decide +kernel
theorem dX1_isNoPair_32 : decode cX1_isNoPair 32 = .ok (.ifCond .ne 7, 3) := by decide +kernel
theorem dX1_isNoPair_35 : decode cX1_isNoPair 35 = .ok (.iconst 1, 1) := by decide +kernel
theorem dX1_isNoPair_36 : decode cX1_isNoPair 36 = .ok (.goto 4, 3) := by decide +kernel
theorem dX1_isNoPair_39 : decode cX1_isNoPair 39 = .ok (.iconst 0, 1) := by decide +kernel
theorem dX1_isNoPair_40 : decode cX1_isNoPair 40 = .ok (.iconst 2, 1) := by decide +kernel
theorem dX1_isNoPair_41 : decode cX1_isNoPair 41 = .ok (.invokevirtual 31, 3) := by decide +kernel
theorem dX1_isNoPair_44 : decode cX1_isNoPair 44 = .ok (.ifCond .eq 7, 3) := by decide +kernel
theorem dX1_isNoPair_47 : decode cX1_isNoPair 47 = .ok (.iconst 1, 1) := by decide +kernel
theorem dX1_isNoPair_48 : decode cX1_isNoPair 48 = .ok (.goto 4, 3) := by decide +kernel
theorem dX1_isNoPair_51 : decode cX1_isNoPair 51 = .ok (.iconst 0, 1) := by decide +kernel
theorem dX1_isNoPair_52 : decode cX1_isNoPair 52 = .ok (.ireturn, 1) := by decide +kernel
theorem dX1_isNoAsked_0 : decode cX1_isNoAsked 0 = .ok (.aload_n 0, 1) := by decide +kernel
theorem dX1_isNoAsked_1 : decode cX1_isNoAsked 1 = .ok (.iload_n 1, 1) := by decide +kernel
theorem dX1_isNoAsked_2 : decode cX1_isNoAsked 2 = .ok (.iconst 0, 1) := by decide +kernel
theorem dX1_isNoAsked_3 : decode cX1_isNoAsked 3 = .ok (.sipush 32767, 3) := by decide +kernel
theorem dX1_isNoAsked_6 : decode cX1_isNoAsked 6 = .ok (.invokestatic 27, 3) := by decide +kernel
theorem dX1_isNoAsked_9 : decode cX1_isNoAsked 9 = .ok (.ifCond .ne 7, 3) := by decide +kernel
theorem dX1_isNoAsked_12 : decode cX1_isNoAsked 12 = .ok (.iconst 1, 1) := by decide +kernel
theorem dX1_isNoAsked_13 : decode cX1_isNoAsked 13 = .ok (.goto 4, 3) := by decide +kernel
theorem dX1_isNoAsked_16 : decode cX1_isNoAsked 16 = .ok (.iconst 0, 1) := by decide +kernel
theorem dX1_isNoAsked_17 : decode cX1_isNoAsked 17 = .ok (.iload_n 2, 1) := by decide +kernel
theorem dX1_isNoAsked_18 : decode cX1_isNoAsked 18 = .ok (.invokevirtual 31, 3) := by decide +kernel
theorem dX1_isNoAsked_21 : decode cX1_isNoAsked 21 = .ok (.ireturn, 1) := by decide +kernel
theorem dX1_rooted_0 : decode cX1_rooted 0 = .ok (.lconst 0, 1) := by decide +kernel
theorem dX1_rooted_1 : decode cX1_rooted 1 = .ok (.lstore_n 2, 1) := by decide +kernel
theorem dX1_rooted_2 : decode cX1_rooted 2 = .ok (.lconst 0, 1) := by decide +kernel
theorem dX1_rooted_3 : decode cX1_rooted 3 = .ok (.lstore 4, 2) := by decide +kernel
theorem dX1_rooted_5 : decode cX1_rooted 5 = .ok (.bipush 7, 2) := by decide +kernel
theorem dX1_rooted_7 : decode cX1_rooted 7 = .ok (.istore 6, 2) := by decide +kernel
theorem dX1_rooted_9 : decode cX1_rooted 9 = .ok (.iload 6, 2) := by decide +kernel
theorem dX1_rooted_11 : decode cX1_rooted 11 = .ok (.iload_n 1, 1) := by decide +kernel
theorem dX1_rooted_12 : decode cX1_rooted 12 = .ok (.ineg, 1) := by decide +kernel
theorem dX1_rooted_13 : decode cX1_rooted 13 = .ok (.if_icmp .lt 74, 3) := by decide +kernel
theorem dX1_rooted_16 : decode cX1_rooted 16 = .ok (.iload 6, 2) := by decide +kernel
theorem dX1_rooted_18 : decode cX1_rooted 18 = .ok (.ifCond .lt 14, 3) := by decide +kernel
theorem dX1_rooted_21 : decode cX1_rooted 21 = .ok (.iload_n 0, 1) := by decide +kernel
theorem dX1_rooted_22 : decode cX1_rooted 22 = .ok (.iconst 2, 1) := by decide +kernel
theorem dX1_rooted_23 : decode cX1_rooted 23 = .ok (.iload 6, 2) := by decide +kernel
theorem dX1_rooted_25 : decode cX1_rooted 25 = .ok (.imul, 1) := by decide +kernel
theorem dX1_rooted_26 : decode cX1_rooted 26 = .ok (.ishr, 1) := by decide +kernel
theorem dX1_rooted_27 : decode cX1_rooted 27 = .ok (.iconst 3, 1) := by decide +kernel
theorem dX1_rooted_28 : decode cX1_rooted 28 = .ok (.iand, 1) := by decide +kernel
theorem dX1_rooted_29 : decode cX1_rooted 29 = .ok (.goto 4, 3) := by decide +kernel
theorem dX1_rooted_32 : decode cX1_rooted 32 = .ok (.iconst 0, 1) := by decide +kernel
theorem dX1_rooted_33 : decode cX1_rooted 33 = .ok (.istore 7, 2) := by decide +kernel
theorem dX1_rooted_35 : decode cX1_rooted 35 = .ok (.ldc2_w 39, 3) := by decide +kernel
theorem dX1_rooted_38 : decode cX1_rooted 38 = .ok (.lload 4, 2) := by decide +kernel
theorem dX1_rooted_40 : decode cX1_rooted 40 = .ok (.lmul, 1) := by decide +kernel
theorem dX1_rooted_41 : decode cX1_rooted 41 = .ok (.iload 7, 2) := by decide +kernel
theorem dX1_rooted_43 : decode cX1_rooted 43 = .ok (.i2l, 1) := by decide +kernel
theorem dX1_rooted_44 : decode cX1_rooted 44 = .ok (.ladd, 1) := by decide +kernel
theorem dX1_rooted_45 : decode cX1_rooted 45 = .ok (.lstore 4, 2) := by decide +kernel
theorem dX1_rooted_47 : decode cX1_rooted 47 = .ok (.ldc2_w 39, 3) := by decide +kernel
theorem dX1_rooted_50 : decode cX1_rooted 50 = .ok (.lload_n 2, 1) := by decide +kernel
theorem dX1_rooted_51 : decode cX1_rooted 51 = .ok (.lmul, 1) := by decide +kernel
theorem dX1_rooted_52 : decode cX1_rooted 52 = .ok (.lconst 1, 1) := by decide +kernel
theorem dX1_rooted_53 : decode cX1_rooted 53 = .ok (.ladd, 1) := by decide +kernel
theorem dX1_rooted_54 : decode cX1_rooted 54 = .ok (.lstore 8, 2) := by decide +kernel
theorem dX1_rooted_56 : decode cX1_rooted 56 = .ok (.ldc2_w 41, 3) := by decide +kernel
theorem dX1_rooted_59 : decode cX1_rooted 59 = .ok (.lload_n 2, 1) := by decide +kernel
theorem dX1_rooted_60 : decode cX1_rooted 60 = .ok (.lmul, 1) := by decide +kernel
theorem dX1_rooted_61 : decode cX1_rooted 61 = .ok (.lstore_n 2, 1) := by decide +kernel
theorem dX1_rooted_62 : decode cX1_rooted 62 = .ok (.lload 4, 2) := by decide +kernel
theorem dX1_rooted_64 : decode cX1_rooted 64 = .ok (.lload 8, 2) := by decide +kernel
theorem dX1_rooted_66 : decode cX1_rooted 66 = .ok (.lcmp, 1) := by decide +kernel
theorem dX1_rooted_67 : decode cX1_rooted 67 = .ok (.ifCond .lt 14, 3) := by decide +kernel
theorem dX1_rooted_70 : decode cX1_rooted 70 = .ok (.lload 4, 2) := by decide +kernel
theorem dX1_rooted_72 : decode cX1_rooted 72 = .ok (.lload 8, 2) := by decide +kernel
theorem dX1_rooted_74 : decode cX1_rooted 74 = .ok (.lsub, 1) := by decide +kernel
theorem dX1_rooted_75 : decode cX1_rooted 75 = .ok (.lstore 4, 2) := by decide +kernel
theorem dX1_rooted_77 : decode cX1_rooted 77 = .ok (.lload_n 2, 1) := by decide +kernel
theorem dX1_rooted_78 : decode cX1_rooted 78 = .ok (.lconst 1, 1) := by decide +kernel
theorem dX1_rooted_79 : decode cX1_rooted 79 = .ok (.ladd, 1) := by decide +kernel
theorem dX1_rooted_80 : decode cX1_rooted 80 = .ok (.lstore_n 2, 1) := by decide +kernel
theorem dX1_rooted_81 : decode cX1_rooted 81 = .ok (.iinc 6 (-1), 3) := by decide +kernel
theorem dX1_rooted_84 : decode cX1_rooted 84 = .ok (.goto (-75), 3) := by decide +kernel
theorem dX1_rooted_87 : decode cX1_rooted 87 = .ok (.lload_n 2, 1) := by decide +kernel
theorem dX1_rooted_88 : decode cX1_rooted 88 = .ok (.lreturn, 1) := by decide +kernel
theorem dX1_near_0 : decode cX1_near 0 = .ok (.iload_n 0, 1) := by decide +kernel
theorem dX1_near_1 : decode cX1_near 1 = .ok (.iload_n 1, 1) := by decide +kernel
theorem dX1_near_2 : decode cX1_near 2 = .ok (.iconst 1, 1) := by decide +kernel
theorem dX1_near_3 : decode cX1_near 3 = .ok (.iadd, 1) := by decide +kernel
theorem dX1_near_4 : decode cX1_near 4 = .ok (.invokestatic 43, 3) := by decide +kernel
theorem dX1_near_7 : decode cX1_near 7 = .ok (.lconst 1, 1) := by decide +kernel
theorem dX1_near_8 : decode cX1_near 8 = .ok (.ladd, 1) := by decide +kernel
theorem dX1_near_9 : decode cX1_near 9 = .ok (.ldc2_w 41, 3) := by decide +kernel
theorem dX1_near_12 : decode cX1_near 12 = .ok (.ldiv, 1) := by decide +kernel
theorem dX1_near_13 : decode cX1_near 13 = .ok (.lreturn, 1) := by decide +kernel
theorem dX1_powerOf_0 : decode cX1_powerOf 0 = .ok (.iload_n 0, 1) := by decide +kernel
theorem dX1_powerOf_1 : decode cX1_powerOf 1 = .ok (.iconst 0, 1) := by decide +kernel
theorem dX1_powerOf_2 : decode cX1_powerOf 2 = .ok (.invokestatic 43, 3) := by decide +kernel
theorem dX1_powerOf_5 : decode cX1_powerOf 5 = .ok (.lstore_n 1, 1) := by decide +kernel
theorem dX1_powerOf_6 : decode cX1_powerOf 6 = .ok (.iconst 0, 1) := by decide +kernel
theorem dX1_powerOf_7 : decode cX1_powerOf 7 = .ok (.istore_n 3, 1) := by decide +kernel
theorem dX1_powerOf_8 : decode cX1_powerOf 8 = .ok (.lload_n 1, 1) := by decide +kernel
theorem dX1_powerOf_9 : decode cX1_powerOf 9 = .ok (.iload_n 3, 1) := by decide +kernel
theorem dX1_powerOf_10 : decode cX1_powerOf 10 = .ok (.iconst 1, 1) := by decide +kernel
theorem dX1_powerOf_11 : decode cX1_powerOf 11 = .ok (.iadd, 1) := by decide +kernel
theorem dX1_powerOf_12 : decode cX1_powerOf 12 = .ok (.lshr, 1) := by decide +kernel
theorem dX1_powerOf_13 : decode cX1_powerOf 13 = .ok (.lconst 0, 1) := by decide +kernel
theorem dX1_powerOf_14 : decode cX1_powerOf 14 = .ok (.lcmp, 1) := by decide +kernel
theorem dX1_powerOf_15 : decode cX1_powerOf 15 = .ok (.ifCond .le 9, 3) := by decide +kernel
theorem dX1_powerOf_18 : decode cX1_powerOf 18 = .ok (.iinc 3 1, 3) := by decide +kernel
theorem dX1_powerOf_21 : decode cX1_powerOf 21 = .ok (.goto (-13), 3) := by decide +kernel
theorem dX1_powerOf_24 : decode cX1_powerOf 24 = .ok (.iload_n 3, 1) := by decide +kernel
theorem dX1_powerOf_25 : decode cX1_powerOf 25 = .ok (.ireturn, 1) := by decide +kernel
theorem dX1_bitsOf_0 : decode cX1_bitsOf 0 = .ok (.iload_n 0, 1) := by decide +kernel
theorem dX1_bitsOf_1 : decode cX1_bitsOf 1 = .ok (.ifCond .ne 5, 3) := by decide +kernel
theorem dX1_bitsOf_4 : decode cX1_bitsOf 4 = .ok (.lconst 0, 1) := by decide +kernel
theorem dX1_bitsOf_5 : decode cX1_bitsOf 5 = .ok (.lreturn, 1) := by decide +kernel
theorem dX1_bitsOf_6 : decode cX1_bitsOf 6 = .ok (.iload_n 0, 1) := by decide +kernel
theorem dX1_bitsOf_7 : decode cX1_bitsOf 7 = .ok (.invokestatic 47, 3) := by decide +kernel
theorem dX1_bitsOf_10 : decode cX1_bitsOf 10 = .ok (.istore_n 2, 1) := by decide +kernel
theorem dX1_bitsOf_11 : decode cX1_bitsOf 11 = .ok (.iload_n 2, 1) := by decide +kernel
theorem dX1_bitsOf_12 : decode cX1_bitsOf 12 = .ok (.i2l, 1) := by decide +kernel
theorem dX1_bitsOf_13 : decode cX1_bitsOf 13 = .ok (.iload_n 1, 1) := by decide +kernel
theorem dX1_bitsOf_14 : decode cX1_bitsOf 14 = .ok (.ifCond .eq 9, 3) := by decide +kernel
theorem dX1_bitsOf_17 : decode cX1_bitsOf 17 = .ok (.ldc2_w 51, 3) := by decide +kernel
theorem dX1_bitsOf_20 : decode cX1_bitsOf 20 = .ok (.goto 6, 3) := by decide +kernel
theorem dX1_bitsOf_23 : decode cX1_bitsOf 23 = .ok (.ldc2_w 53, 3) := by decide +kernel
theorem dX1_bitsOf_26 : decode cX1_bitsOf 26 = .ok (.ladd, 1) := by decide +kernel
theorem dX1_bitsOf_27 : decode cX1_bitsOf 27 = .ok (.lstore_n 3, 1) := by decide +kernel
theorem dX1_bitsOf_28 : decode cX1_bitsOf 28 = .ok (.lload_n 3, 1) := by decide +kernel
theorem dX1_bitsOf_29 : decode cX1_bitsOf 29 = .ok (.bipush 52, 2) := by decide +kernel
theorem dX1_bitsOf_31 : decode cX1_bitsOf 31 = .ok (.lshl, 1) := by decide +kernel
theorem dX1_bitsOf_32 : decode cX1_bitsOf 32 = .ok (.iload_n 0, 1) := by decide +kernel
theorem dX1_bitsOf_33 : decode cX1_bitsOf 33 = .ok (.bipush 52, 2) := by decide +kernel
theorem dX1_bitsOf_35 : decode cX1_bitsOf 35 = .ok (.iload_n 2, 1) := by decide +kernel
theorem dX1_bitsOf_36 : decode cX1_bitsOf 36 = .ok (.isub, 1) := by decide +kernel
theorem dX1_bitsOf_37 : decode cX1_bitsOf 37 = .ok (.invokestatic 55, 3) := by decide +kernel
theorem dX1_bitsOf_40 : decode cX1_bitsOf 40 = .ok (.ladd, 1) := by decide +kernel
theorem dX1_bitsOf_41 : decode cX1_bitsOf 41 = .ok (.ldc2_w 58, 3) := by decide +kernel
theorem dX1_bitsOf_44 : decode cX1_bitsOf 44 = .ok (.lsub, 1) := by decide +kernel
theorem dX1_bitsOf_45 : decode cX1_bitsOf 45 = .ok (.lreturn, 1) := by decide +kernel
theorem dX1_rootGrainsOf_0 : decode cX1_rootGrainsOf 0 = .ok (.iload_n 0, 1) := by decide +kernel
theorem dX1_rootGrainsOf_1 : decode cX1_rootGrainsOf 1 = .ok (.iload_n 1, 1) := by decide +kernel
theorem dX1_rootGrainsOf_2 : decode cX1_rootGrainsOf 2 = .ok (.ifCond .eq 8, 3) := by decide +kernel
theorem dX1_rootGrainsOf_5 : decode cX1_rootGrainsOf 5 = .ok (.bipush 15, 2) := by decide +kernel
theorem dX1_rootGrainsOf_7 : decode cX1_rootGrainsOf 7 = .ok (.goto 5, 3) := by decide +kernel
theorem dX1_rootGrainsOf_10 : decode cX1_rootGrainsOf 10 = .ok (.bipush 16, 2) := by decide +kernel
theorem dX1_rootGrainsOf_12 : decode cX1_rootGrainsOf 12 = .ok (.invokestatic 55, 3) := by decide +kernel
theorem dX1_rootGrainsOf_15 : decode cX1_rootGrainsOf 15 = .ok (.l2i, 1) := by decide +kernel
theorem dX1_rootGrainsOf_16 : decode cX1_rootGrainsOf 16 = .ok (.ireturn, 1) := by decide +kernel
theorem dX1_wholeOf_0 : decode cX1_wholeOf 0 = .ok (.iload_n 1, 1) := by decide +kernel
theorem dX1_wholeOf_1 : decode cX1_wholeOf 1 = .ok (.ifCond .eq 9, 3) := by decide +kernel
theorem dX1_wholeOf_4 : decode cX1_wholeOf 4 = .ok (.iload_n 0, 1) := by decide +kernel
theorem dX1_wholeOf_5 : decode cX1_wholeOf 5 = .ok (.iconst 4, 1) := by decide +kernel
theorem dX1_wholeOf_6 : decode cX1_wholeOf 6 = .ok (.idiv, 1) := by decide +kernel
theorem dX1_wholeOf_7 : decode cX1_wholeOf 7 = .ok (.goto 4, 3) := by decide +kernel
theorem dX1_wholeOf_10 : decode cX1_wholeOf 10 = .ok (.iload_n 0, 1) := by decide +kernel
theorem dX1_wholeOf_11 : decode cX1_wholeOf 11 = .ok (.iconst 0, 1) := by decide +kernel
theorem dX1_wholeOf_12 : decode cX1_wholeOf 12 = .ok (.invokestatic 43, 3) := by decide +kernel
theorem dX1_wholeOf_15 : decode cX1_wholeOf 15 = .ok (.l2i, 1) := by decide +kernel
theorem dX1_wholeOf_16 : decode cX1_wholeOf 16 = .ok (.ireturn, 1) := by decide +kernel
theorem dX1_put_0 : decode cX1_put 0 = .ok (.aload_n 0, 1) := by decide +kernel
theorem dX1_put_1 : decode cX1_put 1 = .ok (.iload_n 1, 1) := by decide +kernel
theorem dX1_put_2 : decode cX1_put 2 = .ok (.invokevirtual 35, 3) := by decide +kernel
theorem dX1_put_5 : decode cX1_put 5 = .ok (.ifCond .ne 36, 3) := by decide +kernel
theorem dX1_put_8 : decode cX1_put 8 = .ok (.aload_n 0, 1) := by decide +kernel
theorem dX1_put_9 : decode cX1_put 9 = .ok (.iload_n 2, 1) := by decide +kernel
theorem dX1_put_10 : decode cX1_put 10 = .ok (.iconst 0, 1) := by decide +kernel
theorem dX1_put_11 : decode cX1_put 11 = .ok (.bipush 90, 2) := by decide +kernel
theorem dX1_put_13 : decode cX1_put 13 = .ok (.invokestatic 27, 3) := by decide +kernel
theorem dX1_put_16 : decode cX1_put 16 = .ok (.ifCond .eq 13, 3) := by decide +kernel
theorem dX1_put_19 : decode cX1_put 19 = .ok (.iload_n 3, 1) := by decide +kernel
theorem dX1_put_20 : decode cX1_put 20 = .ok (.iconst 0, 1) := by decide +kernel
theorem dX1_put_21 : decode cX1_put 21 = .ok (.bipush 90, 2) := by decide +kernel
theorem dX1_put_23 : decode cX1_put 23 = .ok (.invokestatic 27, 3) := by decide +kernel
theorem dX1_put_26 : decode cX1_put 26 = .ok (.ifCond .ne 7, 3) := by decide +kernel
theorem dX1_put_29 : decode cX1_put 29 = .ok (.iconst 1, 1) := by decide +kernel
theorem dX1_put_30 : decode cX1_put 30 = .ok (.goto 4, 3) := by decide +kernel
theorem dX1_put_33 : decode cX1_put 33 = .ok (.iconst 0, 1) := by decide +kernel
theorem dX1_put_34 : decode cX1_put 34 = .ok (.iconst 2, 1) := by decide +kernel
theorem dX1_put_35 : decode cX1_put 35 = .ok (.invokevirtual 31, 3) := by decide +kernel
theorem dX1_put_38 : decode cX1_put 38 = .ok (.ifCond .eq 5, 3) := by decide +kernel
theorem dX1_put_41 : decode cX1_put 41 = .ok (.iconst 0, 1) := by decide +kernel
theorem dX1_put_42 : decode cX1_put 42 = .ok (.ireturn, 1) := by decide +kernel
theorem dX1_put_43 : decode cX1_put 43 = .ok (.aload_n 0, 1) := by decide +kernel
theorem dX1_put_44 : decode cX1_put 44 = .ok (.getfield 7, 3) := by decide +kernel
theorem dX1_put_47 : decode cX1_put 47 = .ok (.iload_n 1, 1) := by decide +kernel
theorem dX1_put_48 : decode cX1_put 48 = .ok (.baload, 1) := by decide +kernel
theorem dX1_put_49 : decode cX1_put 49 = .ok (.ifCond .ne 7, 3) := by decide +kernel
theorem dX1_put_52 : decode cX1_put 52 = .ok (.iconst 1, 1) := by decide +kernel
theorem dX1_put_53 : decode cX1_put 53 = .ok (.goto 4, 3) := by decide +kernel
theorem dX1_put_56 : decode cX1_put 56 = .ok (.iconst 0, 1) := by decide +kernel
theorem dX1_put_57 : decode cX1_put 57 = .ok (.istore 4, 2) := by decide +kernel
theorem dX1_put_59 : decode cX1_put 59 = .ok (.aload_n 0, 1) := by decide +kernel
theorem dX1_put_60 : decode cX1_put 60 = .ok (.getfield 7, 3) := by decide +kernel
theorem dX1_put_63 : decode cX1_put 63 = .ok (.iload_n 1, 1) := by decide +kernel
theorem dX1_put_64 : decode cX1_put 64 = .ok (.iconst 1, 1) := by decide +kernel
theorem dX1_put_65 : decode cX1_put 65 = .ok (.bastore, 1) := by decide +kernel
theorem dX1_put_66 : decode cX1_put 66 = .ok (.aload_n 0, 1) := by decide +kernel
theorem dX1_put_67 : decode cX1_put 67 = .ok (.getfield 13, 3) := by decide +kernel
theorem dX1_put_70 : decode cX1_put 70 = .ok (.iload_n 1, 1) := by decide +kernel
theorem dX1_put_71 : decode cX1_put 71 = .ok (.iload_n 2, 1) := by decide +kernel
theorem dX1_put_72 : decode cX1_put 72 = .ok (.iastore, 1) := by decide +kernel
theorem dX1_put_73 : decode cX1_put 73 = .ok (.aload_n 0, 1) := by decide +kernel
theorem dX1_put_74 : decode cX1_put 74 = .ok (.getfield 17, 3) := by decide +kernel
theorem dX1_put_77 : decode cX1_put 77 = .ok (.iload_n 1, 1) := by decide +kernel
theorem dX1_put_78 : decode cX1_put 78 = .ok (.iload_n 3, 1) := by decide +kernel
theorem dX1_put_79 : decode cX1_put 79 = .ok (.iastore, 1) := by decide +kernel
theorem dX1_put_80 : decode cX1_put 80 = .ok (.iload 4, 2) := by decide +kernel
theorem dX1_put_82 : decode cX1_put 82 = .ok (.ireturn, 1) := by decide +kernel
theorem dX1_isInRing_0 : decode cX1_isInRing 0 = .ok (.iconst 0, 1) := by decide +kernel
theorem dX1_isInRing_1 : decode cX1_isInRing 1 = .ok (.istore_n 2, 1) := by decide +kernel
theorem dX1_isInRing_2 : decode cX1_isInRing 2 = .ok (.iconst 0, 1) := by decide +kernel
theorem dX1_isInRing_3 : decode cX1_isInRing 3 = .ok (.istore_n 3, 1) := by decide +kernel
theorem dX1_isInRing_4 : decode cX1_isInRing 4 = .ok (.iload_n 3, 1) := by decide +kernel
theorem dX1_isInRing_5 : decode cX1_isInRing 5 = .ok (.aload_n 0, 1) := by decide +kernel
theorem dX1_isInRing_6 : decode cX1_isInRing 6 = .ok (.getfield 60, 3) := by decide +kernel
theorem dX1_isInRing_9 : decode cX1_isInRing 9 = .ok (.if_icmp .ge 29, 3) := by decide +kernel
theorem dX1_isInRing_12 : decode cX1_isInRing 12 = .ok (.iload_n 2, 1) := by decide +kernel
theorem dX1_isInRing_13 : decode cX1_isInRing 13 = .ok (.ifCond .ne 13, 3) := by decide +kernel
theorem dX1_isInRing_16 : decode cX1_isInRing 16 = .ok (.aload_n 0, 1) := by decide +kernel
theorem dX1_isInRing_17 : decode cX1_isInRing 17 = .ok (.getfield 20, 3) := by decide +kernel
theorem dX1_isInRing_20 : decode cX1_isInRing 20 = .ok (.iload_n 3, 1) := by decide +kernel
theorem dX1_isInRing_21 : decode cX1_isInRing 21 = .ok (.iaload, 1) := by decide +kernel
theorem dX1_isInRing_22 : decode cX1_isInRing 22 = .ok (.iload_n 1, 1) := by decide +kernel
theorem dX1_isInRing_23 : decode cX1_isInRing 23 = .ok (.if_icmp .ne 7, 3) := by decide +kernel
theorem dX1_isInRing_26 : decode cX1_isInRing 26 = .ok (.iconst 1, 1) := by decide +kernel
theorem dX1_isInRing_27 : decode cX1_isInRing 27 = .ok (.goto 4, 3) := by decide +kernel
theorem dX1_isInRing_30 : decode cX1_isInRing 30 = .ok (.iconst 0, 1) := by decide +kernel
theorem dX1_isInRing_31 : decode cX1_isInRing 31 = .ok (.istore_n 2, 1) := by decide +kernel
theorem dX1_isInRing_32 : decode cX1_isInRing 32 = .ok (.iinc 3 1, 3) := by decide +kernel
theorem dX1_isInRing_35 : decode cX1_isInRing 35 = .ok (.goto (-31), 3) := by decide +kernel
theorem dX1_isInRing_38 : decode cX1_isInRing 38 = .ok (.iload_n 2, 1) := by decide +kernel
theorem dX1_isInRing_39 : decode cX1_isInRing 39 = .ok (.ireturn, 1) := by decide +kernel
theorem dX1_take_0 : decode cX1_take 0 = .ok (.aload_n 0, 1) := by decide +kernel
theorem dX1_take_1 : decode cX1_take 1 = .ok (.iload_n 1, 1) := by decide +kernel
theorem dX1_take_2 : decode cX1_take 2 = .ok (.invokevirtual 63, 3) := by decide +kernel
theorem dX1_take_5 : decode cX1_take 5 = .ok (.ifCond .ne 23, 3) := by decide +kernel
theorem dX1_take_8 : decode cX1_take 8 = .ok (.aload_n 0, 1) := by decide +kernel
theorem dX1_take_9 : decode cX1_take 9 = .ok (.aload_n 0, 1) := by decide +kernel
theorem dX1_take_10 : decode cX1_take 10 = .ok (.iload_n 1, 1) := by decide +kernel
theorem dX1_take_11 : decode cX1_take 11 = .ok (.invokevirtual 66, 3) := by decide +kernel
theorem dX1_take_14 : decode cX1_take 14 = .ok (.iconst 3, 1) := by decide +kernel
theorem dX1_take_15 : decode cX1_take 15 = .ok (.invokevirtual 31, 3) := by decide +kernel
theorem dX1_take_18 : decode cX1_take 18 = .ok (.ifCond .ne 10, 3) := by decide +kernel
theorem dX1_take_21 : decode cX1_take 21 = .ok (.aload_n 0, 1) := by decide +kernel
theorem dX1_take_22 : decode cX1_take 22 = .ok (.getfield 7, 3) := by decide +kernel
theorem dX1_take_25 : decode cX1_take 25 = .ok (.iload_n 1, 1) := by decide +kernel
theorem dX1_take_26 : decode cX1_take 26 = .ok (.iconst 0, 1) := by decide +kernel
theorem dX1_take_27 : decode cX1_take 27 = .ok (.bastore, 1) := by decide +kernel
theorem dX1_take_28 : decode cX1_take 28 = .ok (.return_, 1) := by decide +kernel
theorem dX1_step_0 : decode cX1_step 0 = .ok (.aload_n 0, 1) := by decide +kernel
theorem dX1_step_1 : decode cX1_step 1 = .ok (.iload_n 1, 1) := by decide +kernel
theorem dX1_step_2 : decode cX1_step 2 = .ok (.invokevirtual 63, 3) := by decide +kernel
theorem dX1_step_5 : decode cX1_step 5 = .ok (.ifCond .ne 40, 3) := by decide +kernel
theorem dX1_step_8 : decode cX1_step 8 = .ok (.aload_n 0, 1) := by decide +kernel
theorem dX1_step_9 : decode cX1_step 9 = .ok (.iload_n 2, 1) := by decide +kernel
theorem dX1_step_10 : decode cX1_step 10 = .ok (.bipush 110, 2) := by decide +kernel
theorem dX1_step_12 : decode cX1_step 12 = .ok (.if_icmp .eq 25, 3) := by decide +kernel
theorem dX1_step_15 : decode cX1_step 15 = .ok (.iload_n 2, 1) := by decide +kernel
theorem dX1_step_16 : decode cX1_step 16 = .ok (.bipush 115, 2) := by decide +kernel
theorem dX1_step_18 : decode cX1_step 18 = .ok (.if_icmp .eq 19, 3) := by decide +kernel
theorem dX1_step_21 : decode cX1_step 21 = .ok (.iload_n 2, 1) := by decide +kernel
theorem dX1_step_22 : decode cX1_step 22 = .ok (.bipush 101, 2) := by decide +kernel
theorem dX1_step_24 : decode cX1_step 24 = .ok (.if_icmp .eq 13, 3) := by decide +kernel
theorem dX1_step_27 : decode cX1_step 27 = .ok (.iload_n 2, 1) := by decide +kernel
theorem dX1_step_28 : decode cX1_step 28 = .ok (.bipush 119, 2) := by decide +kernel
theorem dX1_step_30 : decode cX1_step 30 = .ok (.if_icmp .eq 7, 3) := by decide +kernel
theorem dX1_step_33 : decode cX1_step 33 = .ok (.iconst 1, 1) := by decide +kernel
theorem dX1_step_34 : decode cX1_step 34 = .ok (.goto 4, 3) := by decide +kernel
theorem dX1_step_37 : decode cX1_step 37 = .ok (.iconst 0, 1) := by decide +kernel
theorem dX1_step_38 : decode cX1_step 38 = .ok (.iconst 3, 1) := by decide +kernel
theorem dX1_step_39 : decode cX1_step 39 = .ok (.invokevirtual 31, 3) := by decide +kernel
theorem dX1_step_42 : decode cX1_step 42 = .ok (.ifCond .eq 5, 3) := by decide +kernel
theorem dX1_step_45 : decode cX1_step 45 = .ok (.iconst 0, 1) := by decide +kernel
theorem dX1_step_46 : decode cX1_step 46 = .ok (.ireturn, 1) := by decide +kernel
theorem dX1_step_47 : decode cX1_step 47 = .ok (.iload_n 2, 1) := by decide +kernel
theorem dX1_step_48 : decode cX1_step 48 = .ok (.bipush 101, 2) := by decide +kernel
theorem dX1_step_50 : decode cX1_step 50 = .ok (.if_icmp .ne 7, 3) := by decide +kernel
theorem dX1_step_53 : decode cX1_step 53 = .ok (.iconst 1, 1) := by decide +kernel
theorem dX1_step_54 : decode cX1_step 54 = .ok (.goto 14, 3) := by decide +kernel
theorem dX1_step_57 : decode cX1_step 57 = .ok (.iload_n 2, 1) := by decide +kernel
theorem dX1_step_58 : decode cX1_step 58 = .ok (.bipush 119, 2) := by decide +kernel
theorem dX1_step_60 : decode cX1_step 60 = .ok (.if_icmp .ne 7, 3) := by decide +kernel
theorem dX1_step_63 : decode cX1_step 63 = .ok (.iconst (-1), 1) := by decide +kernel
theorem dX1_step_64 : decode cX1_step 64 = .ok (.goto 4, 3) := by decide +kernel
theorem dX1_step_67 : decode cX1_step 67 = .ok (.iconst 0, 1) := by decide +kernel
theorem dX1_step_68 : decode cX1_step 68 = .ok (.istore_n 3, 1) := by decide +kernel
theorem dX1_step_69 : decode cX1_step 69 = .ok (.iload_n 2, 1) := by decide +kernel
theorem dX1_step_70 : decode cX1_step 70 = .ok (.bipush 110, 2) := by decide +kernel
theorem dX1_step_72 : decode cX1_step 72 = .ok (.if_icmp .ne 7, 3) := by decide +kernel
theorem dX1_step_75 : decode cX1_step 75 = .ok (.iconst 1, 1) := by decide +kernel
theorem dX1_step_76 : decode cX1_step 76 = .ok (.goto 14, 3) := by decide +kernel
theorem dX1_step_79 : decode cX1_step 79 = .ok (.iload_n 2, 1) := by decide +kernel
theorem dX1_step_80 : decode cX1_step 80 = .ok (.bipush 115, 2) := by decide +kernel
theorem dX1_step_82 : decode cX1_step 82 = .ok (.if_icmp .ne 7, 3) := by decide +kernel
theorem dX1_step_85 : decode cX1_step 85 = .ok (.iconst (-1), 1) := by decide +kernel
theorem dX1_step_86 : decode cX1_step 86 = .ok (.goto 4, 3) := by decide +kernel
theorem dX1_step_89 : decode cX1_step 89 = .ok (.iconst 0, 1) := by decide +kernel
theorem dX1_step_90 : decode cX1_step 90 = .ok (.istore 4, 2) := by decide +kernel
theorem dX1_step_92 : decode cX1_step 92 = .ok (.aload_n 0, 1) := by decide +kernel
theorem dX1_step_93 : decode cX1_step 93 = .ok (.getfield 13, 3) := by decide +kernel
theorem dX1_step_96 : decode cX1_step 96 = .ok (.iload_n 1, 1) := by decide +kernel
theorem dX1_step_97 : decode cX1_step 97 = .ok (.iaload, 1) := by decide +kernel
theorem dX1_step_98 : decode cX1_step 98 = .ok (.iload_n 3, 1) := by decide +kernel
theorem dX1_step_99 : decode cX1_step 99 = .ok (.iadd, 1) := by decide +kernel
theorem dX1_step_100 : decode cX1_step 100 = .ok (.iconst 0, 1) := by decide +kernel
theorem dX1_step_101 : decode cX1_step 101 = .ok (.bipush 90, 2) := by decide +kernel
theorem dX1_step_103 : decode cX1_step 103 = .ok (.invokestatic 27, 3) := by decide +kernel
theorem dX1_step_106 : decode cX1_step 106 = .ok (.ifCond .eq 21, 3) := by decide +kernel
theorem dX1_step_109 : decode cX1_step 109 = .ok (.aload_n 0, 1) := by decide +kernel
theorem dX1_step_110 : decode cX1_step 110 = .ok (.getfield 17, 3) := by decide +kernel
theorem dX1_step_113 : decode cX1_step 113 = .ok (.iload_n 1, 1) := by decide +kernel
theorem dX1_step_114 : decode cX1_step 114 = .ok (.iaload, 1) := by decide +kernel
theorem dX1_step_115 : decode cX1_step 115 = .ok (.iload 4, 2) := by decide +kernel
theorem dX1_step_117 : decode cX1_step 117 = .ok (.iadd, 1) := by decide +kernel
theorem dX1_step_118 : decode cX1_step 118 = .ok (.iconst 0, 1) := by decide +kernel
theorem dX1_step_119 : decode cX1_step 119 = .ok (.bipush 90, 2) := by decide +kernel
theorem dX1_step_121 : decode cX1_step 121 = .ok (.invokestatic 27, 3) := by decide +kernel
theorem dX1_step_124 : decode cX1_step 124 = .ok (.ifCond .ne 5, 3) := by decide +kernel
theorem dX1_step_127 : decode cX1_step 127 = .ok (.iconst 0, 1) := by decide +kernel
theorem dX1_step_128 : decode cX1_step 128 = .ok (.ireturn, 1) := by decide +kernel
theorem dX1_step_129 : decode cX1_step 129 = .ok (.aload_n 0, 1) := by decide +kernel
theorem dX1_step_130 : decode cX1_step 130 = .ok (.getfield 13, 3) := by decide +kernel
theorem dX1_step_133 : decode cX1_step 133 = .ok (.iload_n 1, 1) := by decide +kernel
theorem dX1_step_134 : decode cX1_step 134 = .ok (.dup2, 1) := by decide +kernel
theorem dX1_step_135 : decode cX1_step 135 = .ok (.iaload, 1) := by decide +kernel
theorem dX1_step_136 : decode cX1_step 136 = .ok (.iload_n 3, 1) := by decide +kernel
theorem dX1_step_137 : decode cX1_step 137 = .ok (.iadd, 1) := by decide +kernel
theorem dX1_step_138 : decode cX1_step 138 = .ok (.iastore, 1) := by decide +kernel
theorem dX1_step_139 : decode cX1_step 139 = .ok (.aload_n 0, 1) := by decide +kernel
theorem dX1_step_140 : decode cX1_step 140 = .ok (.getfield 17, 3) := by decide +kernel
theorem dX1_step_143 : decode cX1_step 143 = .ok (.iload_n 1, 1) := by decide +kernel
theorem dX1_step_144 : decode cX1_step 144 = .ok (.dup2, 1) := by decide +kernel
theorem dX1_step_145 : decode cX1_step 145 = .ok (.iaload, 1) := by decide +kernel
theorem dX1_step_146 : decode cX1_step 146 = .ok (.iload 4, 2) := by decide +kernel
theorem dX1_step_148 : decode cX1_step 148 = .ok (.iadd, 1) := by decide +kernel
theorem dX1_step_149 : decode cX1_step 149 = .ok (.iastore, 1) := by decide +kernel
theorem dX1_step_150 : decode cX1_step 150 = .ok (.iconst 1, 1) := by decide +kernel
theorem dX1_step_151 : decode cX1_step 151 = .ok (.ireturn, 1) := by decide +kernel
theorem dX1_isThere_0 : decode cX1_isThere 0 = .ok (.aload_n 0, 1) := by decide +kernel
theorem dX1_isThere_1 : decode cX1_isThere 1 = .ok (.iload_n 1, 1) := by decide +kernel
theorem dX1_isThere_2 : decode cX1_isThere 2 = .ok (.invokevirtual 35, 3) := by decide +kernel
theorem dX1_isThere_5 : decode cX1_isThere 5 = .ok (.ifCond .ne 16, 3) := by decide +kernel
theorem dX1_isThere_8 : decode cX1_isThere 8 = .ok (.aload_n 0, 1) := by decide +kernel
theorem dX1_isThere_9 : decode cX1_isThere 9 = .ok (.getfield 7, 3) := by decide +kernel
theorem dX1_isThere_12 : decode cX1_isThere 12 = .ok (.iload_n 1, 1) := by decide +kernel
theorem dX1_isThere_13 : decode cX1_isThere 13 = .ok (.baload, 1) := by decide +kernel
theorem dX1_isThere_14 : decode cX1_isThere 14 = .ok (.ifCond .eq 7, 3) := by decide +kernel
theorem dX1_isThere_17 : decode cX1_isThere 17 = .ok (.iconst 1, 1) := by decide +kernel
theorem dX1_isThere_18 : decode cX1_isThere 18 = .ok (.goto 4, 3) := by decide +kernel
theorem dX1_isThere_21 : decode cX1_isThere 21 = .ok (.iconst 0, 1) := by decide +kernel
theorem dX1_isThere_22 : decode cX1_isThere 22 = .ok (.ireturn, 1) := by decide +kernel
theorem dX1_placed_0 : decode cX1_placed 0 = .ok (.bipush 91, 2) := by decide +kernel
theorem dX1_placed_2 : decode cX1_placed 2 = .ok (.aload_n 0, 1) := by decide +kernel
theorem dX1_placed_3 : decode cX1_placed 3 = .ok (.getfield 17, 3) := by decide +kernel
theorem dX1_placed_6 : decode cX1_placed 6 = .ok (.iload_n 1, 1) := by decide +kernel
theorem dX1_placed_7 : decode cX1_placed 7 = .ok (.iaload, 1) := by decide +kernel
theorem dX1_placed_8 : decode cX1_placed 8 = .ok (.imul, 1) := by decide +kernel
theorem dX1_placed_9 : decode cX1_placed 9 = .ok (.aload_n 0, 1) := by decide +kernel
theorem dX1_placed_10 : decode cX1_placed 10 = .ok (.getfield 13, 3) := by decide +kernel
theorem dX1_placed_13 : decode cX1_placed 13 = .ok (.iload_n 1, 1) := by decide +kernel
theorem dX1_placed_14 : decode cX1_placed 14 = .ok (.iaload, 1) := by decide +kernel
theorem dX1_placed_15 : decode cX1_placed 15 = .ok (.iadd, 1) := by decide +kernel
theorem dX1_placed_16 : decode cX1_placed 16 = .ok (.ireturn, 1) := by decide +kernel
theorem dX1_placeOf_0 : decode cX1_placeOf 0 = .ok (.aload_n 0, 1) := by decide +kernel
theorem dX1_placeOf_1 : decode cX1_placeOf 1 = .ok (.iload_n 1, 1) := by decide +kernel
theorem dX1_placeOf_2 : decode cX1_placeOf 2 = .ok (.invokevirtual 63, 3) := by decide +kernel
theorem dX1_placeOf_5 : decode cX1_placeOf 5 = .ok (.ifCond .eq 7, 3) := by decide +kernel
theorem dX1_placeOf_8 : decode cX1_placeOf 8 = .ok (.iconst 0, 1) := by decide +kernel
theorem dX1_placeOf_9 : decode cX1_placeOf 9 = .ok (.goto 8, 3) := by decide +kernel
theorem dX1_placeOf_12 : decode cX1_placeOf 12 = .ok (.aload_n 0, 1) := by decide +kernel
theorem dX1_placeOf_13 : decode cX1_placeOf 13 = .ok (.iload_n 1, 1) := by decide +kernel
theorem dX1_placeOf_14 : decode cX1_placeOf 14 = .ok (.invokevirtual 69, 3) := by decide +kernel
theorem dX1_placeOf_17 : decode cX1_placeOf 17 = .ok (.ireturn, 1) := by decide +kernel
theorem dX1_count_0 : decode cX1_count 0 = .ok (.iconst 0, 1) := by decide +kernel
theorem dX1_count_1 : decode cX1_count 1 = .ok (.istore_n 1, 1) := by decide +kernel
theorem dX1_count_2 : decode cX1_count 2 = .ok (.iconst 0, 1) := by decide +kernel
theorem dX1_count_3 : decode cX1_count 3 = .ok (.istore_n 2, 1) := by decide +kernel
theorem dX1_count_4 : decode cX1_count 4 = .ok (.iload_n 2, 1) := by decide +kernel
theorem dX1_count_5 : decode cX1_count 5 = .ok (.bipush 12, 2) := by decide +kernel
theorem dX1_count_7 : decode cX1_count 7 = .ok (.if_icmp .ge 26, 3) := by decide +kernel
theorem dX1_count_10 : decode cX1_count 10 = .ok (.iload_n 1, 1) := by decide +kernel
theorem dX1_count_11 : decode cX1_count 11 = .ok (.aload_n 0, 1) := by decide +kernel
theorem dX1_count_12 : decode cX1_count 12 = .ok (.getfield 7, 3) := by decide +kernel
theorem dX1_count_15 : decode cX1_count 15 = .ok (.iload_n 2, 1) := by decide +kernel
theorem dX1_count_16 : decode cX1_count 16 = .ok (.baload, 1) := by decide +kernel
theorem dX1_count_17 : decode cX1_count 17 = .ok (.ifCond .eq 7, 3) := by decide +kernel
theorem dX1_count_20 : decode cX1_count 20 = .ok (.iconst 1, 1) := by decide +kernel
theorem dX1_count_21 : decode cX1_count 21 = .ok (.goto 4, 3) := by decide +kernel
theorem dX1_count_24 : decode cX1_count 24 = .ok (.iconst 0, 1) := by decide +kernel
theorem dX1_count_25 : decode cX1_count 25 = .ok (.iadd, 1) := by decide +kernel
theorem dX1_count_26 : decode cX1_count 26 = .ok (.istore_n 1, 1) := by decide +kernel
theorem dX1_count_27 : decode cX1_count 27 = .ok (.iinc 2 1, 3) := by decide +kernel
theorem dX1_count_30 : decode cX1_count 30 = .ok (.goto (-26), 3) := by decide +kernel
theorem dX1_count_33 : decode cX1_count 33 = .ok (.iload_n 1, 1) := by decide +kernel
theorem dX1_count_34 : decode cX1_count 34 = .ok (.ireturn, 1) := by decide +kernel
theorem dX1_widen_0 : decode cX1_widen 0 = .ok (.aload_n 0, 1) := by decide +kernel
theorem dX1_widen_1 : decode cX1_widen 1 = .ok (.getfield 72, 3) := by decide +kernel
theorem dX1_widen_4 : decode cX1_widen 4 = .ok (.istore_n 2, 1) := by decide +kernel
theorem dX1_widen_5 : decode cX1_widen 5 = .ok (.aload_n 0, 1) := by decide +kernel
theorem dX1_widen_6 : decode cX1_widen 6 = .ok (.iload_n 1, 1) := by decide +kernel
theorem dX1_widen_7 : decode cX1_widen 7 = .ok (.putfield 72, 3) := by decide +kernel
theorem dX1_widen_10 : decode cX1_widen 10 = .ok (.iload_n 2, 1) := by decide +kernel
theorem dX1_widen_11 : decode cX1_widen 11 = .ok (.iload_n 1, 1) := by decide +kernel
theorem dX1_widen_12 : decode cX1_widen 12 = .ok (.if_icmp .eq 7, 3) := by decide +kernel
theorem dX1_widen_15 : decode cX1_widen 15 = .ok (.iconst 1, 1) := by decide +kernel
theorem dX1_widen_16 : decode cX1_widen 16 = .ok (.goto 4, 3) := by decide +kernel
theorem dX1_widen_19 : decode cX1_widen 19 = .ok (.iconst 0, 1) := by decide +kernel
theorem dX1_widen_20 : decode cX1_widen 20 = .ok (.ireturn, 1) := by decide +kernel
theorem dX1_grainsOf_0 : decode cX1_grainsOf 0 = .ok (.aload_n 0, 1) := by decide +kernel
theorem dX1_grainsOf_1 : decode cX1_grainsOf 1 = .ok (.getfield 13, 3) := by decide +kernel
theorem dX1_grainsOf_4 : decode cX1_grainsOf 4 = .ok (.iload_n 2, 1) := by decide +kernel
theorem dX1_grainsOf_5 : decode cX1_grainsOf 5 = .ok (.iaload, 1) := by decide +kernel
theorem dX1_grainsOf_6 : decode cX1_grainsOf 6 = .ok (.aload_n 0, 1) := by decide +kernel
theorem dX1_grainsOf_7 : decode cX1_grainsOf 7 = .ok (.getfield 13, 3) := by decide +kernel
theorem dX1_grainsOf_10 : decode cX1_grainsOf 10 = .ok (.iload_n 1, 1) := by decide +kernel
theorem dX1_grainsOf_11 : decode cX1_grainsOf 11 = .ok (.iaload, 1) := by decide +kernel
theorem dX1_grainsOf_12 : decode cX1_grainsOf 12 = .ok (.isub, 1) := by decide +kernel
theorem dX1_grainsOf_13 : decode cX1_grainsOf 13 = .ok (.istore_n 3, 1) := by decide +kernel
theorem dX1_grainsOf_14 : decode cX1_grainsOf 14 = .ok (.aload_n 0, 1) := by decide +kernel
theorem dX1_grainsOf_15 : decode cX1_grainsOf 15 = .ok (.getfield 17, 3) := by decide +kernel
theorem dX1_grainsOf_18 : decode cX1_grainsOf 18 = .ok (.iload_n 2, 1) := by decide +kernel
theorem dX1_grainsOf_19 : decode cX1_grainsOf 19 = .ok (.iaload, 1) := by decide +kernel
theorem dX1_grainsOf_20 : decode cX1_grainsOf 20 = .ok (.aload_n 0, 1) := by decide +kernel
theorem dX1_grainsOf_21 : decode cX1_grainsOf 21 = .ok (.getfield 17, 3) := by decide +kernel
theorem dX1_grainsOf_24 : decode cX1_grainsOf 24 = .ok (.iload_n 1, 1) := by decide +kernel
theorem dX1_grainsOf_25 : decode cX1_grainsOf 25 = .ok (.iaload, 1) := by decide +kernel
theorem dX1_grainsOf_26 : decode cX1_grainsOf 26 = .ok (.isub, 1) := by decide +kernel
theorem dX1_grainsOf_27 : decode cX1_grainsOf 27 = .ok (.istore 4, 2) := by decide +kernel
theorem dX1_grainsOf_29 : decode cX1_grainsOf 29 = .ok (.iload_n 3, 1) := by decide +kernel
theorem dX1_grainsOf_30 : decode cX1_grainsOf 30 = .ok (.iload_n 3, 1) := by decide +kernel
theorem dX1_grainsOf_31 : decode cX1_grainsOf 31 = .ok (.imul, 1) := by decide +kernel
theorem dX1_grainsOf_32 : decode cX1_grainsOf 32 = .ok (.iload 4, 2) := by decide +kernel
theorem dX1_grainsOf_34 : decode cX1_grainsOf 34 = .ok (.iload 4, 2) := by decide +kernel
theorem dX1_grainsOf_36 : decode cX1_grainsOf 36 = .ok (.imul, 1) := by decide +kernel
theorem dX1_grainsOf_37 : decode cX1_grainsOf 37 = .ok (.iadd, 1) := by decide +kernel
theorem dX1_grainsOf_38 : decode cX1_grainsOf 38 = .ok (.aload_n 0, 1) := by decide +kernel
theorem dX1_grainsOf_39 : decode cX1_grainsOf 39 = .ok (.getfield 72, 3) := by decide +kernel
theorem dX1_grainsOf_42 : decode cX1_grainsOf 42 = .ok (.ifCond .eq 8, 3) := by decide +kernel
theorem dX1_grainsOf_45 : decode cX1_grainsOf 45 = .ok (.bipush 15, 2) := by decide +kernel
theorem dX1_grainsOf_47 : decode cX1_grainsOf 47 = .ok (.goto 5, 3) := by decide +kernel
theorem dX1_grainsOf_50 : decode cX1_grainsOf 50 = .ok (.bipush 14, 2) := by decide +kernel
theorem dX1_grainsOf_52 : decode cX1_grainsOf 52 = .ok (.invokestatic 55, 3) := by decide +kernel
theorem dX1_grainsOf_55 : decode cX1_grainsOf 55 = .ok (.l2i, 1) := by decide +kernel
theorem dX1_grainsOf_56 : decode cX1_grainsOf 56 = .ok (.ireturn, 1) := by decide +kernel
theorem dX1_stretch_0 : decode cX1_stretch 0 = .ok (.aload_n 0, 1) := by decide +kernel
theorem dX1_stretch_1 : decode cX1_stretch 1 = .ok (.iload_n 1, 1) := by decide +kernel
theorem dX1_stretch_2 : decode cX1_stretch 2 = .ok (.iload_n 2, 1) := by decide +kernel
theorem dX1_stretch_3 : decode cX1_stretch 3 = .ok (.invokevirtual 76, 3) := by decide +kernel
theorem dX1_stretch_6 : decode cX1_stretch 6 = .ok (.ifCond .eq 7, 3) := by decide +kernel
theorem dX1_stretch_9 : decode cX1_stretch 9 = .ok (.iconst 0, 1) := by decide +kernel
theorem dX1_stretch_10 : decode cX1_stretch 10 = .ok (.goto 9, 3) := by decide +kernel
theorem dX1_stretch_13 : decode cX1_stretch 13 = .ok (.aload_n 0, 1) := by decide +kernel
theorem dX1_stretch_14 : decode cX1_stretch 14 = .ok (.iload_n 1, 1) := by decide +kernel
theorem dX1_stretch_15 : decode cX1_stretch 15 = .ok (.iload_n 2, 1) := by decide +kernel
theorem dX1_stretch_16 : decode cX1_stretch 16 = .ok (.invokevirtual 80, 3) := by decide +kernel
theorem dX1_stretch_19 : decode cX1_stretch 19 = .ok (.ireturn, 1) := by decide +kernel
theorem dX1_isSteady_0 : decode cX1_isSteady 0 = .ok (.aload_n 0, 1) := by decide +kernel
theorem dX1_isSteady_1 : decode cX1_isSteady 1 = .ok (.iload_n 1, 1) := by decide +kernel
theorem dX1_isSteady_2 : decode cX1_isSteady 2 = .ok (.iload_n 2, 1) := by decide +kernel
theorem dX1_isSteady_3 : decode cX1_isSteady 3 = .ok (.invokevirtual 76, 3) := by decide +kernel
theorem dX1_isSteady_6 : decode cX1_isSteady 6 = .ok (.ifCond .ne 7, 3) := by decide +kernel
theorem dX1_isSteady_9 : decode cX1_isSteady 9 = .ok (.iconst 1, 1) := by decide +kernel
theorem dX1_isSteady_10 : decode cX1_isSteady 10 = .ok (.goto 4, 3) := by decide +kernel
theorem dX1_isSteady_13 : decode cX1_isSteady 13 = .ok (.iconst 0, 1) := by decide +kernel
theorem dX1_isSteady_14 : decode cX1_isSteady 14 = .ok (.ireturn, 1) := by decide +kernel
theorem dX1_isDoubled_0 : decode cX1_isDoubled 0 = .ok (.aload_n 0, 1) := by decide +kernel
theorem dX1_isDoubled_1 : decode cX1_isDoubled 1 = .ok (.iload_n 1, 1) := by decide +kernel
theorem dX1_isDoubled_2 : decode cX1_isDoubled 2 = .ok (.iload_n 2, 1) := by decide +kernel
theorem dX1_isDoubled_3 : decode cX1_isDoubled 3 = .ok (.invokevirtual 76, 3) := by decide +kernel
theorem dX1_isDoubled_6 : decode cX1_isDoubled 6 = .ok (.ifCond .ne 7, 3) := by decide +kernel
theorem dX1_isDoubled_9 : decode cX1_isDoubled 9 = .ok (.iconst 1, 1) := by decide +kernel
theorem dX1_isDoubled_10 : decode cX1_isDoubled 10 = .ok (.goto 4, 3) := by decide +kernel
theorem dX1_isDoubled_13 : decode cX1_isDoubled 13 = .ok (.iconst 0, 1) := by decide +kernel
theorem dX1_isDoubled_14 : decode cX1_isDoubled 14 = .ok (.ireturn, 1) := by decide +kernel
theorem dX1_isClose_0 : decode cX1_isClose 0 = .ok (.aload_n 0, 1) := by decide +kernel
theorem dX1_isClose_1 : decode cX1_isClose 1 = .ok (.iload_n 1, 1) := by decide +kernel
theorem dX1_isClose_2 : decode cX1_isClose 2 = .ok (.iload_n 2, 1) := by decide +kernel
theorem dX1_isClose_3 : decode cX1_isClose 3 = .ok (.invokevirtual 76, 3) := by decide +kernel
theorem dX1_isClose_6 : decode cX1_isClose 6 = .ok (.ifCond .ne 7, 3) := by decide +kernel
theorem dX1_isClose_9 : decode cX1_isClose 9 = .ok (.iconst 1, 1) := by decide +kernel
theorem dX1_isClose_10 : decode cX1_isClose 10 = .ok (.goto 4, 3) := by decide +kernel
theorem dX1_isClose_13 : decode cX1_isClose 13 = .ok (.iconst 0, 1) := by decide +kernel
theorem dX1_isClose_14 : decode cX1_isClose 14 = .ok (.ireturn, 1) := by decide +kernel
theorem dX1_isNoLonger_0 : decode cX1_isNoLonger 0 = .ok (.aload_n 0, 1) := by decide +kernel
theorem dX1_isNoLonger_1 : decode cX1_isNoLonger 1 = .ok (.iload_n 1, 1) := by decide +kernel
theorem dX1_isNoLonger_2 : decode cX1_isNoLonger 2 = .ok (.iload_n 3, 1) := by decide +kernel
theorem dX1_isNoLonger_3 : decode cX1_isNoLonger 3 = .ok (.invokevirtual 80, 3) := by decide +kernel
theorem dX1_isNoLonger_6 : decode cX1_isNoLonger 6 = .ok (.aload_n 0, 1) := by decide +kernel
theorem dX1_isNoLonger_7 : decode cX1_isNoLonger 7 = .ok (.iload_n 1, 1) := by decide +kernel
theorem dX1_isNoLonger_8 : decode cX1_isNoLonger 8 = .ok (.iload_n 2, 1) := by decide +kernel
theorem dX1_isNoLonger_9 : decode cX1_isNoLonger 9 = .ok (.invokevirtual 80, 3) := by decide +kernel
theorem dX1_isNoLonger_12 : decode cX1_isNoLonger 12 = .ok (.aload_n 0, 1) := by decide +kernel
theorem dX1_isNoLonger_13 : decode cX1_isNoLonger 13 = .ok (.iload_n 2, 1) := by decide +kernel
theorem dX1_isNoLonger_14 : decode cX1_isNoLonger 14 = .ok (.iload_n 3, 1) := by decide +kernel
theorem dX1_isNoLonger_15 : decode cX1_isNoLonger 15 = .ok (.invokevirtual 80, 3) := by decide +kernel
theorem dX1_isNoLonger_18 : decode cX1_isNoLonger 18 = .ok (.iadd, 1) := by decide +kernel
theorem dX1_isNoLonger_19 : decode cX1_isNoLonger 19 = .ok (.iconst 1, 1) := by decide +kernel
theorem dX1_isNoLonger_20 : decode cX1_isNoLonger 20 = .ok (.iadd, 1) := by decide +kernel
theorem dX1_isNoLonger_21 : decode cX1_isNoLonger 21 = .ok (.if_icmp .gt 7, 3) := by decide +kernel
theorem dX1_isNoLonger_24 : decode cX1_isNoLonger 24 = .ok (.iconst 1, 1) := by decide +kernel
theorem dX1_isNoLonger_25 : decode cX1_isNoLonger 25 = .ok (.goto 4, 3) := by decide +kernel
theorem dX1_isNoLonger_28 : decode cX1_isNoLonger 28 = .ok (.iconst 0, 1) := by decide +kernel
theorem dX1_isNoLonger_29 : decode cX1_isNoLonger 29 = .ok (.ireturn, 1) := by decide +kernel
theorem dX1_isStraight_0 : decode cX1_isStraight 0 = .ok (.aload_n 0, 1) := by decide +kernel
theorem dX1_isStraight_1 : decode cX1_isStraight 1 = .ok (.iload_n 1, 1) := by decide +kernel
theorem dX1_isStraight_2 : decode cX1_isStraight 2 = .ok (.invokevirtual 35, 3) := by decide +kernel
theorem dX1_isStraight_5 : decode cX1_isStraight 5 = .ok (.ifCond .ne 59, 3) := by decide +kernel
end
section
theorem dX1_isStraight_8 : decode cX1_isStraight 8 = .ok (.aload_n 0, 1) := by decide +kernel
theorem dX1_isStraight_9 : decode cX1_isStraight 9 = .ok (.iload_n 2, 1) := by decide +kernel
theorem dX1_isStraight_10 : decode cX1_isStraight 10 = .ok (.invokevirtual 35, 3) := by decide +kernel
theorem dX1_isStraight_13 : decode cX1_isStraight 13 = .ok (.ifCond .ne 51, 3) := by decide +kernel
theorem dX1_isStraight_16 : decode cX1_isStraight 16 = .ok (.aload_n 0, 1) := by decide +kernel
theorem dX1_isStraight_17 : decode cX1_isStraight 17 = .ok (.iload_n 3, 1) := by decide +kernel
theorem dX1_isStraight_18 : decode cX1_isStraight 18 = .ok (.invokevirtual 35, 3) := by decide +kernel
theorem dX1_isStraight_21 : decode cX1_isStraight 21 = .ok (.ifCond .ne 43, 3) := by decide +kernel
theorem dX1_isStraight_24 : decode cX1_isStraight 24 = .ok (.aload_n 0, 1) := by decide +kernel
theorem dX1_isStraight_25 : decode cX1_isStraight 25 = .ok (.aload_n 0, 1) := by decide +kernel
theorem dX1_isStraight_26 : decode cX1_isStraight 26 = .ok (.getfield 7, 3) := by decide +kernel
theorem dX1_isStraight_29 : decode cX1_isStraight 29 = .ok (.iload_n 1, 1) := by decide +kernel
theorem dX1_isStraight_30 : decode cX1_isStraight 30 = .ok (.baload, 1) := by decide +kernel
theorem dX1_isStraight_31 : decode cX1_isStraight 31 = .ok (.ifCond .eq 21, 3) := by decide +kernel
theorem dX1_isStraight_34 : decode cX1_isStraight 34 = .ok (.aload_n 0, 1) := by decide +kernel
theorem dX1_isStraight_35 : decode cX1_isStraight 35 = .ok (.getfield 7, 3) := by decide +kernel
theorem dX1_isStraight_38 : decode cX1_isStraight 38 = .ok (.iload_n 2, 1) := by decide +kernel
theorem dX1_isStraight_39 : decode cX1_isStraight 39 = .ok (.baload, 1) := by decide +kernel
theorem dX1_isStraight_40 : decode cX1_isStraight 40 = .ok (.ifCond .eq 12, 3) := by decide +kernel
theorem dX1_isStraight_43 : decode cX1_isStraight 43 = .ok (.aload_n 0, 1) := by decide +kernel
theorem dX1_isStraight_44 : decode cX1_isStraight 44 = .ok (.getfield 7, 3) := by decide +kernel
theorem dX1_isStraight_47 : decode cX1_isStraight 47 = .ok (.iload_n 3, 1) := by decide +kernel
theorem dX1_isStraight_48 : decode cX1_isStraight 48 = .ok (.baload, 1) := by decide +kernel
theorem dX1_isStraight_49 : decode cX1_isStraight 49 = .ok (.ifCond .ne 7, 3) := by decide +kernel
theorem dX1_isStraight_52 : decode cX1_isStraight 52 = .ok (.iconst 1, 1) := by decide +kernel
theorem dX1_isStraight_53 : decode cX1_isStraight 53 = .ok (.goto 4, 3) := by decide +kernel
theorem dX1_isStraight_56 : decode cX1_isStraight 56 = .ok (.iconst 0, 1) := by decide +kernel
theorem dX1_isStraight_57 : decode cX1_isStraight 57 = .ok (.iconst 2, 1) := by decide +kernel
theorem dX1_isStraight_58 : decode cX1_isStraight 58 = .ok (.invokevirtual 31, 3) := by decide +kernel
theorem dX1_isStraight_61 : decode cX1_isStraight 61 = .ok (.ifCond .eq 5, 3) := by decide +kernel
theorem dX1_isStraight_64 : decode cX1_isStraight 64 = .ok (.iconst 0, 1) := by decide +kernel
theorem dX1_isStraight_65 : decode cX1_isStraight 65 = .ok (.ireturn, 1) := by decide +kernel
theorem dX1_isStraight_66 : decode cX1_isStraight 66 = .ok (.aload_n 0, 1) := by decide +kernel
theorem dX1_isStraight_67 : decode cX1_isStraight 67 = .ok (.iload_n 1, 1) := by decide +kernel
theorem dX1_isStraight_68 : decode cX1_isStraight 68 = .ok (.iload_n 2, 1) := by decide +kernel
theorem dX1_isStraight_69 : decode cX1_isStraight 69 = .ok (.iload_n 3, 1) := by decide +kernel
theorem dX1_isStraight_70 : decode cX1_isStraight 70 = .ok (.invokevirtual 84, 3) := by decide +kernel
theorem dX1_isStraight_73 : decode cX1_isStraight 73 = .ok (.ireturn, 1) := by decide +kernel
theorem dX1_nearestTo_0 : decode cX1_nearestTo 0 = .ok (.iconst (-1), 1) := by decide +kernel
theorem dX1_nearestTo_1 : decode cX1_nearestTo 1 = .ok (.istore_n 2, 1) := by decide +kernel
theorem dX1_nearestTo_2 : decode cX1_nearestTo 2 = .ok (.iconst 0, 1) := by decide +kernel
theorem dX1_nearestTo_3 : decode cX1_nearestTo 3 = .ok (.istore_n 3, 1) := by decide +kernel
theorem dX1_nearestTo_4 : decode cX1_nearestTo 4 = .ok (.iload_n 3, 1) := by decide +kernel
theorem dX1_nearestTo_5 : decode cX1_nearestTo 5 = .ok (.bipush 12, 2) := by decide +kernel
theorem dX1_nearestTo_7 : decode cX1_nearestTo 7 = .ok (.if_icmp .ge 45, 3) := by decide +kernel
theorem dX1_nearestTo_10 : decode cX1_nearestTo 10 = .ok (.iload_n 3, 1) := by decide +kernel
theorem dX1_nearestTo_11 : decode cX1_nearestTo 11 = .ok (.iload_n 1, 1) := by decide +kernel
theorem dX1_nearestTo_12 : decode cX1_nearestTo 12 = .ok (.if_icmp .eq 34, 3) := by decide +kernel
theorem dX1_nearestTo_15 : decode cX1_nearestTo 15 = .ok (.aload_n 0, 1) := by decide +kernel
theorem dX1_nearestTo_16 : decode cX1_nearestTo 16 = .ok (.getfield 7, 3) := by decide +kernel
theorem dX1_nearestTo_19 : decode cX1_nearestTo 19 = .ok (.iload_n 3, 1) := by decide +kernel
theorem dX1_nearestTo_20 : decode cX1_nearestTo 20 = .ok (.baload, 1) := by decide +kernel
theorem dX1_nearestTo_21 : decode cX1_nearestTo 21 = .ok (.ifCond .eq 25, 3) := by decide +kernel
theorem dX1_nearestTo_24 : decode cX1_nearestTo 24 = .ok (.iload_n 2, 1) := by decide +kernel
theorem dX1_nearestTo_25 : decode cX1_nearestTo 25 = .ok (.iconst (-1), 1) := by decide +kernel
theorem dX1_nearestTo_26 : decode cX1_nearestTo 26 = .ok (.if_icmp .eq 18, 3) := by decide +kernel
theorem dX1_nearestTo_29 : decode cX1_nearestTo 29 = .ok (.aload_n 0, 1) := by decide +kernel
theorem dX1_nearestTo_30 : decode cX1_nearestTo 30 = .ok (.iload_n 1, 1) := by decide +kernel
theorem dX1_nearestTo_31 : decode cX1_nearestTo 31 = .ok (.iload_n 3, 1) := by decide +kernel
theorem dX1_nearestTo_32 : decode cX1_nearestTo 32 = .ok (.invokevirtual 80, 3) := by decide +kernel
theorem dX1_nearestTo_35 : decode cX1_nearestTo 35 = .ok (.aload_n 0, 1) := by decide +kernel
theorem dX1_nearestTo_36 : decode cX1_nearestTo 36 = .ok (.iload_n 1, 1) := by decide +kernel
theorem dX1_nearestTo_37 : decode cX1_nearestTo 37 = .ok (.iload_n 2, 1) := by decide +kernel
theorem dX1_nearestTo_38 : decode cX1_nearestTo 38 = .ok (.invokevirtual 80, 3) := by decide +kernel
theorem dX1_nearestTo_41 : decode cX1_nearestTo 41 = .ok (.if_icmp .ge 5, 3) := by decide +kernel
theorem dX1_nearestTo_44 : decode cX1_nearestTo 44 = .ok (.iload_n 3, 1) := by decide +kernel
theorem dX1_nearestTo_45 : decode cX1_nearestTo 45 = .ok (.istore_n 2, 1) := by decide +kernel
theorem dX1_nearestTo_46 : decode cX1_nearestTo 46 = .ok (.iinc 3 1, 3) := by decide +kernel
theorem dX1_nearestTo_49 : decode cX1_nearestTo 49 = .ok (.goto (-45), 3) := by decide +kernel
theorem dX1_nearestTo_52 : decode cX1_nearestTo 52 = .ok (.iload_n 2, 1) := by decide +kernel
theorem dX1_nearestTo_53 : decode cX1_nearestTo 53 = .ok (.ireturn, 1) := by decide +kernel
theorem dX1_nearest_0 : decode cX1_nearest 0 = .ok (.aload_n 0, 1) := by decide +kernel
theorem dX1_nearest_1 : decode cX1_nearest 1 = .ok (.iload_n 1, 1) := by decide +kernel
theorem dX1_nearest_2 : decode cX1_nearest 2 = .ok (.invokevirtual 63, 3) := by decide +kernel
theorem dX1_nearest_5 : decode cX1_nearest 5 = .ok (.ifCond .ne 24, 3) := by decide +kernel
theorem dX1_nearest_8 : decode cX1_nearest 8 = .ok (.aload_n 0, 1) := by decide +kernel
theorem dX1_nearest_9 : decode cX1_nearest 9 = .ok (.aload_n 0, 1) := by decide +kernel
theorem dX1_nearest_10 : decode cX1_nearest 10 = .ok (.invokevirtual 87, 3) := by decide +kernel
theorem dX1_nearest_13 : decode cX1_nearest 13 = .ok (.iconst 1, 1) := by decide +kernel
theorem dX1_nearest_14 : decode cX1_nearest 14 = .ok (.if_icmp .ne 7, 3) := by decide +kernel
theorem dX1_nearest_17 : decode cX1_nearest 17 = .ok (.iconst 1, 1) := by decide +kernel
theorem dX1_nearest_18 : decode cX1_nearest 18 = .ok (.goto 4, 3) := by decide +kernel
theorem dX1_nearest_21 : decode cX1_nearest 21 = .ok (.iconst 0, 1) := by decide +kernel
theorem dX1_nearest_22 : decode cX1_nearest 22 = .ok (.iconst 3, 1) := by decide +kernel
theorem dX1_nearest_23 : decode cX1_nearest 23 = .ok (.invokevirtual 31, 3) := by decide +kernel
theorem dX1_nearest_26 : decode cX1_nearest 26 = .ok (.ifCond .eq 5, 3) := by decide +kernel
theorem dX1_nearest_29 : decode cX1_nearest 29 = .ok (.iconst 0, 1) := by decide +kernel
theorem dX1_nearest_30 : decode cX1_nearest 30 = .ok (.ireturn, 1) := by decide +kernel
theorem dX1_nearest_31 : decode cX1_nearest 31 = .ok (.aload_n 0, 1) := by decide +kernel
theorem dX1_nearest_32 : decode cX1_nearest 32 = .ok (.iload_n 1, 1) := by decide +kernel
theorem dX1_nearest_33 : decode cX1_nearest 33 = .ok (.invokevirtual 91, 3) := by decide +kernel
theorem dX1_nearest_36 : decode cX1_nearest 36 = .ok (.ireturn, 1) := by decide +kernel
theorem dX1_rank_0 : decode cX1_rank 0 = .ok (.aload_n 0, 1) := by decide +kernel
theorem dX1_rank_1 : decode cX1_rank 1 = .ok (.iload_n 1, 1) := by decide +kernel
theorem dX1_rank_2 : decode cX1_rank 2 = .ok (.iload_n 2, 1) := by decide +kernel
theorem dX1_rank_3 : decode cX1_rank 3 = .ok (.invokevirtual 76, 3) := by decide +kernel
theorem dX1_rank_6 : decode cX1_rank 6 = .ok (.ifCond .eq 5, 3) := by decide +kernel
theorem dX1_rank_9 : decode cX1_rank 9 = .ok (.iconst 0, 1) := by decide +kernel
theorem dX1_rank_10 : decode cX1_rank 10 = .ok (.ireturn, 1) := by decide +kernel
theorem dX1_rank_11 : decode cX1_rank 11 = .ok (.iconst 0, 1) := by decide +kernel
theorem dX1_rank_12 : decode cX1_rank 12 = .ok (.istore_n 3, 1) := by decide +kernel
theorem dX1_rank_13 : decode cX1_rank 13 = .ok (.iconst 0, 1) := by decide +kernel
theorem dX1_rank_14 : decode cX1_rank 14 = .ok (.istore 4, 2) := by decide +kernel
theorem dX1_rank_16 : decode cX1_rank 16 = .ok (.iload 4, 2) := by decide +kernel
theorem dX1_rank_18 : decode cX1_rank 18 = .ok (.bipush 12, 2) := by decide +kernel
theorem dX1_rank_20 : decode cX1_rank 20 = .ok (.if_icmp .ge 73, 3) := by decide +kernel
theorem dX1_rank_23 : decode cX1_rank 23 = .ok (.iload 4, 2) := by decide +kernel
theorem dX1_rank_25 : decode cX1_rank 25 = .ok (.iconst 1, 1) := by decide +kernel
theorem dX1_rank_26 : decode cX1_rank 26 = .ok (.iadd, 1) := by decide +kernel
theorem dX1_rank_27 : decode cX1_rank 27 = .ok (.istore 5, 2) := by decide +kernel
theorem dX1_rank_29 : decode cX1_rank 29 = .ok (.iload 5, 2) := by decide +kernel
theorem dX1_rank_31 : decode cX1_rank 31 = .ok (.bipush 12, 2) := by decide +kernel
theorem dX1_rank_33 : decode cX1_rank 33 = .ok (.if_icmp .ge 54, 3) := by decide +kernel
theorem dX1_rank_36 : decode cX1_rank 36 = .ok (.iload_n 3, 1) := by decide +kernel
theorem dX1_rank_37 : decode cX1_rank 37 = .ok (.aload_n 0, 1) := by decide +kernel
theorem dX1_rank_38 : decode cX1_rank 38 = .ok (.getfield 7, 3) := by decide +kernel
theorem dX1_rank_41 : decode cX1_rank 41 = .ok (.iload 4, 2) := by decide +kernel
theorem dX1_rank_43 : decode cX1_rank 43 = .ok (.baload, 1) := by decide +kernel
theorem dX1_rank_44 : decode cX1_rank 44 = .ok (.ifCond .eq 34, 3) := by decide +kernel
theorem dX1_rank_47 : decode cX1_rank 47 = .ok (.aload_n 0, 1) := by decide +kernel
theorem dX1_rank_48 : decode cX1_rank 48 = .ok (.getfield 7, 3) := by decide +kernel
theorem dX1_rank_51 : decode cX1_rank 51 = .ok (.iload 5, 2) := by decide +kernel
theorem dX1_rank_53 : decode cX1_rank 53 = .ok (.baload, 1) := by decide +kernel
theorem dX1_rank_54 : decode cX1_rank 54 = .ok (.ifCond .eq 24, 3) := by decide +kernel
theorem dX1_rank_57 : decode cX1_rank 57 = .ok (.aload_n 0, 1) := by decide +kernel
theorem dX1_rank_58 : decode cX1_rank 58 = .ok (.iload 4, 2) := by decide +kernel
theorem dX1_rank_60 : decode cX1_rank 60 = .ok (.iload 5, 2) := by decide +kernel
theorem dX1_rank_62 : decode cX1_rank 62 = .ok (.invokevirtual 80, 3) := by decide +kernel
theorem dX1_rank_65 : decode cX1_rank 65 = .ok (.aload_n 0, 1) := by decide +kernel
theorem dX1_rank_66 : decode cX1_rank 66 = .ok (.iload_n 1, 1) := by decide +kernel
theorem dX1_rank_67 : decode cX1_rank 67 = .ok (.iload_n 2, 1) := by decide +kernel
theorem dX1_rank_68 : decode cX1_rank 68 = .ok (.invokevirtual 80, 3) := by decide +kernel
theorem dX1_rank_71 : decode cX1_rank 71 = .ok (.if_icmp .ge 7, 3) := by decide +kernel
theorem dX1_rank_74 : decode cX1_rank 74 = .ok (.iconst 1, 1) := by decide +kernel
theorem dX1_rank_75 : decode cX1_rank 75 = .ok (.goto 4, 3) := by decide +kernel
theorem dX1_rank_78 : decode cX1_rank 78 = .ok (.iconst 0, 1) := by decide +kernel
theorem dX1_rank_79 : decode cX1_rank 79 = .ok (.iadd, 1) := by decide +kernel
theorem dX1_rank_80 : decode cX1_rank 80 = .ok (.istore_n 3, 1) := by decide +kernel
theorem dX1_rank_81 : decode cX1_rank 81 = .ok (.iinc 5 1, 3) := by decide +kernel
theorem dX1_rank_84 : decode cX1_rank 84 = .ok (.goto (-55), 3) := by decide +kernel
theorem dX1_rank_87 : decode cX1_rank 87 = .ok (.iinc 4 1, 3) := by decide +kernel
theorem dX1_rank_90 : decode cX1_rank 90 = .ok (.goto (-74), 3) := by decide +kernel
theorem dX1_rank_93 : decode cX1_rank 93 = .ok (.iload_n 3, 1) := by decide +kernel
theorem dX1_rank_94 : decode cX1_rank 94 = .ok (.ireturn, 1) := by decide +kernel
theorem dX1_isIn_0 : decode cX1_isIn 0 = .ok (.aload_n 0, 1) := by decide +kernel
theorem dX1_isIn_1 : decode cX1_isIn 1 = .ok (.iload_n 1, 1) := by decide +kernel
theorem dX1_isIn_2 : decode cX1_isIn 2 = .ok (.iload_n 2, 1) := by decide +kernel
theorem dX1_isIn_3 : decode cX1_isIn 3 = .ok (.invokevirtual 76, 3) := by decide +kernel
theorem dX1_isIn_6 : decode cX1_isIn 6 = .ok (.ifCond .ne 12, 3) := by decide +kernel
theorem dX1_isIn_9 : decode cX1_isIn 9 = .ok (.aload_n 0, 1) := by decide +kernel
theorem dX1_isIn_10 : decode cX1_isIn 10 = .ok (.iload_n 3, 1) := by decide +kernel
theorem dX1_isIn_11 : decode cX1_isIn 11 = .ok (.iconst 3, 1) := by decide +kernel
theorem dX1_isIn_12 : decode cX1_isIn 12 = .ok (.invokevirtual 94, 3) := by decide +kernel
theorem dX1_isIn_15 : decode cX1_isIn 15 = .ok (.ifCond .eq 5, 3) := by decide +kernel
theorem dX1_isIn_18 : decode cX1_isIn 18 = .ok (.iconst 0, 1) := by decide +kernel
theorem dX1_isIn_19 : decode cX1_isIn 19 = .ok (.ireturn, 1) := by decide +kernel
theorem dX1_isIn_20 : decode cX1_isIn 20 = .ok (.aload_n 0, 1) := by decide +kernel
theorem dX1_isIn_21 : decode cX1_isIn 21 = .ok (.iload_n 1, 1) := by decide +kernel
theorem dX1_isIn_22 : decode cX1_isIn 22 = .ok (.iload_n 2, 1) := by decide +kernel
theorem dX1_isIn_23 : decode cX1_isIn 23 = .ok (.invokevirtual 80, 3) := by decide +kernel
theorem dX1_isIn_26 : decode cX1_isIn 26 = .ok (.iload_n 3, 1) := by decide +kernel
theorem dX1_isIn_27 : decode cX1_isIn 27 = .ok (.iload 4, 2) := by decide +kernel
theorem dX1_isIn_29 : decode cX1_isIn 29 = .ok (.invokestatic 97, 3) := by decide +kernel
theorem dX1_isIn_32 : decode cX1_isIn 32 = .ok (.if_icmp .gt 7, 3) := by decide +kernel
theorem dX1_isIn_35 : decode cX1_isIn 35 = .ok (.iconst 1, 1) := by decide +kernel
theorem dX1_isIn_36 : decode cX1_isIn 36 = .ok (.goto 4, 3) := by decide +kernel
theorem dX1_isIn_39 : decode cX1_isIn 39 = .ok (.iconst 0, 1) := by decide +kernel
theorem dX1_isIn_40 : decode cX1_isIn 40 = .ok (.ireturn, 1) := by decide +kernel
theorem dX1_root_0 : decode cX1_root 0 = .ok (.aload_n 0, 1) := by decide +kernel
theorem dX1_root_1 : decode cX1_root 1 = .ok (.iload_n 1, 1) := by decide +kernel
theorem dX1_root_2 : decode cX1_root 2 = .ok (.iconst 1, 1) := by decide +kernel
theorem dX1_root_3 : decode cX1_root 3 = .ok (.invokevirtual 94, 3) := by decide +kernel
theorem dX1_root_6 : decode cX1_root 6 = .ok (.ifCond .ne 7, 3) := by decide +kernel
theorem dX1_root_9 : decode cX1_root 9 = .ok (.iload_n 1, 1) := by decide +kernel
theorem dX1_root_10 : decode cX1_root 10 = .ok (.ifCond .ne 5, 3) := by decide +kernel
theorem dX1_root_13 : decode cX1_root 13 = .ok (.dconst 0, 1) := by decide +kernel
theorem dX1_root_14 : decode cX1_root 14 = .ok (.dreturn, 1) := by decide +kernel
theorem dX1_root_15 : decode cX1_root 15 = .ok (.iload_n 1, 1) := by decide +kernel
theorem dX1_root_16 : decode cX1_root 16 = .ok (.invokestatic 47, 3) := by decide +kernel
theorem dX1_root_19 : decode cX1_root 19 = .ok (.istore_n 3, 1) := by decide +kernel
theorem dX1_root_20 : decode cX1_root 20 = .ok (.iload_n 1, 1) := by decide +kernel
theorem dX1_root_21 : decode cX1_root 21 = .ok (.bipush 52, 2) := by decide +kernel
theorem dX1_root_23 : decode cX1_root 23 = .ok (.iload_n 3, 1) := by decide +kernel
theorem dX1_root_24 : decode cX1_root 24 = .ok (.isub, 1) := by decide +kernel
theorem dX1_root_25 : decode cX1_root 25 = .ok (.invokestatic 55, 3) := by decide +kernel
theorem dX1_root_28 : decode cX1_root 28 = .ok (.l2d, 1) := by decide +kernel
theorem dX1_root_29 : decode cX1_root 29 = .ok (.dstore 4, 2) := by decide +kernel
theorem dX1_root_31 : decode cX1_root 31 = .ok (.iload_n 3, 1) := by decide +kernel
theorem dX1_root_32 : decode cX1_root 32 = .ok (.istore 6, 2) := by decide +kernel
theorem dX1_root_34 : decode cX1_root 34 = .ok (.iload 6, 2) := by decide +kernel
theorem dX1_root_36 : decode cX1_root 36 = .ok (.iload_n 2, 1) := by decide +kernel
theorem dX1_root_37 : decode cX1_root 37 = .ok (.ifCond .eq 8, 3) := by decide +kernel
theorem dX1_root_40 : decode cX1_root 40 = .ok (.bipush 53, 2) := by decide +kernel
theorem dX1_root_42 : decode cX1_root 42 = .ok (.goto 5, 3) := by decide +kernel
theorem dX1_root_45 : decode cX1_root 45 = .ok (.bipush 52, 2) := by decide +kernel
theorem dX1_root_47 : decode cX1_root 47 = .ok (.if_icmp .ge 17, 3) := by decide +kernel
theorem dX1_root_50 : decode cX1_root 50 = .ok (.dload 4, 2) := by decide +kernel
theorem dX1_root_52 : decode cX1_root 52 = .ok (.ldc2_w 101, 3) := by decide +kernel
theorem dX1_root_55 : decode cX1_root 55 = .ok (.ddiv, 1) := by decide +kernel
theorem dX1_root_56 : decode cX1_root 56 = .ok (.dstore 4, 2) := by decide +kernel
theorem dX1_root_58 : decode cX1_root 58 = .ok (.iinc 6 1, 3) := by decide +kernel
theorem dX1_root_61 : decode cX1_root 61 = .ok (.goto (-27), 3) := by decide +kernel
theorem dX1_root_64 : decode cX1_root 64 = .ok (.dload 4, 2) := by decide +kernel
theorem dX1_root_66 : decode cX1_root 66 = .ok (.dreturn, 1) := by decide +kernel
theorem dX1_rootBits_0 : decode cX1_rootBits 0 = .ok (.aload_n 0, 1) := by decide +kernel
theorem dX1_rootBits_1 : decode cX1_rootBits 1 = .ok (.iload_n 1, 1) := by decide +kernel
theorem dX1_rootBits_2 : decode cX1_rootBits 2 = .ok (.iconst 1, 1) := by decide +kernel
theorem dX1_rootBits_3 : decode cX1_rootBits 3 = .ok (.invokevirtual 94, 3) := by decide +kernel
theorem dX1_rootBits_6 : decode cX1_rootBits 6 = .ok (.ifCond .eq 7, 3) := by decide +kernel
theorem dX1_rootBits_9 : decode cX1_rootBits 9 = .ok (.lconst 0, 1) := by decide +kernel
theorem dX1_rootBits_10 : decode cX1_rootBits 10 = .ok (.goto 8, 3) := by decide +kernel
theorem dX1_rootBits_13 : decode cX1_rootBits 13 = .ok (.iload_n 1, 1) := by decide +kernel
theorem dX1_rootBits_14 : decode cX1_rootBits 14 = .ok (.iload_n 2, 1) := by decide +kernel
theorem dX1_rootBits_15 : decode cX1_rootBits 15 = .ok (.invokestatic 103, 3) := by decide +kernel
theorem dX1_rootBits_18 : decode cX1_rootBits 18 = .ok (.lreturn, 1) := by decide +kernel
theorem dX1_rootGrains_0 : decode cX1_rootGrains 0 = .ok (.aload_n 0, 1) := by decide +kernel
theorem dX1_rootGrains_1 : decode cX1_rootGrains 1 = .ok (.iload_n 1, 1) := by decide +kernel
theorem dX1_rootGrains_2 : decode cX1_rootGrains 2 = .ok (.iconst 1, 1) := by decide +kernel
theorem dX1_rootGrains_3 : decode cX1_rootGrains 3 = .ok (.invokevirtual 94, 3) := by decide +kernel
theorem dX1_rootGrains_6 : decode cX1_rootGrains 6 = .ok (.ifCond .eq 7, 3) := by decide +kernel
theorem dX1_rootGrains_9 : decode cX1_rootGrains 9 = .ok (.iconst 0, 1) := by decide +kernel
theorem dX1_rootGrains_10 : decode cX1_rootGrains 10 = .ok (.goto 8, 3) := by decide +kernel
theorem dX1_rootGrains_13 : decode cX1_rootGrains 13 = .ok (.iload_n 1, 1) := by decide +kernel
theorem dX1_rootGrains_14 : decode cX1_rootGrains 14 = .ok (.iload_n 2, 1) := by decide +kernel
theorem dX1_rootGrains_15 : decode cX1_rootGrains 15 = .ok (.invokestatic 97, 3) := by decide +kernel
theorem dX1_rootGrains_18 : decode cX1_rootGrains 18 = .ok (.ireturn, 1) := by decide +kernel
theorem dX1_wholeRoot_0 : decode cX1_wholeRoot 0 = .ok (.aload_n 0, 1) := by decide +kernel
theorem dX1_wholeRoot_1 : decode cX1_wholeRoot 1 = .ok (.iload_n 1, 1) := by decide +kernel
theorem dX1_wholeRoot_2 : decode cX1_wholeRoot 2 = .ok (.iconst 1, 1) := by decide +kernel
theorem dX1_wholeRoot_3 : decode cX1_wholeRoot 3 = .ok (.invokevirtual 94, 3) := by decide +kernel
theorem dX1_wholeRoot_6 : decode cX1_wholeRoot 6 = .ok (.ifCond .eq 7, 3) := by decide +kernel
theorem dX1_wholeRoot_9 : decode cX1_wholeRoot 9 = .ok (.iconst 0, 1) := by decide +kernel
theorem dX1_wholeRoot_10 : decode cX1_wholeRoot 10 = .ok (.goto 8, 3) := by decide +kernel
theorem dX1_wholeRoot_13 : decode cX1_wholeRoot 13 = .ok (.iload_n 1, 1) := by decide +kernel
theorem dX1_wholeRoot_14 : decode cX1_wholeRoot 14 = .ok (.iconst 0, 1) := by decide +kernel
theorem dX1_wholeRoot_15 : decode cX1_wholeRoot 15 = .ok (.invokestatic 107, 3) := by decide +kernel
theorem dX1_wholeRoot_18 : decode cX1_wholeRoot 18 = .ok (.ireturn, 1) := by decide +kernel
theorem dX1_isNearest_0 : decode cX1_isNearest 0 = .ok (.aload_n 0, 1) := by decide +kernel
theorem dX1_isNearest_1 : decode cX1_isNearest 1 = .ok (.iload_n 1, 1) := by decide +kernel
theorem dX1_isNearest_2 : decode cX1_isNearest 2 = .ok (.iconst 1, 1) := by decide +kernel
theorem dX1_isNearest_3 : decode cX1_isNearest 3 = .ok (.invokevirtual 94, 3) := by decide +kernel
theorem dX1_isNearest_6 : decode cX1_isNearest 6 = .ok (.ifCond .ne 7, 3) := by decide +kernel
theorem dX1_isNearest_9 : decode cX1_isNearest 9 = .ok (.iconst 1, 1) := by decide +kernel
theorem dX1_isNearest_10 : decode cX1_isNearest 10 = .ok (.goto 4, 3) := by decide +kernel
theorem dX1_isNearest_13 : decode cX1_isNearest 13 = .ok (.iconst 0, 1) := by decide +kernel
theorem dX1_isNearest_14 : decode cX1_isNearest 14 = .ok (.ireturn, 1) := by decide +kernel
theorem dX1_isHalved_0 : decode cX1_isHalved 0 = .ok (.aload_n 0, 1) := by decide +kernel
theorem dX1_isHalved_1 : decode cX1_isHalved 1 = .ok (.iload_n 1, 1) := by decide +kernel
theorem dX1_isHalved_2 : decode cX1_isHalved 2 = .ok (.iconst 1, 1) := by decide +kernel
theorem dX1_isHalved_3 : decode cX1_isHalved 3 = .ok (.invokevirtual 94, 3) := by decide +kernel
theorem dX1_isHalved_6 : decode cX1_isHalved 6 = .ok (.ifCond .ne 7, 3) := by decide +kernel
theorem dX1_isHalved_9 : decode cX1_isHalved 9 = .ok (.iconst 1, 1) := by decide +kernel
theorem dX1_isHalved_10 : decode cX1_isHalved 10 = .ok (.goto 4, 3) := by decide +kernel
theorem dX1_isHalved_13 : decode cX1_isHalved 13 = .ok (.iconst 0, 1) := by decide +kernel
theorem dX1_isHalved_14 : decode cX1_isHalved 14 = .ok (.ireturn, 1) := by decide +kernel
theorem dX1_between_0 : decode cX1_between 0 = .ok (.aload_n 0, 1) := by decide +kernel
theorem dX1_between_1 : decode cX1_between 1 = .ok (.iload_n 1, 1) := by decide +kernel
theorem dX1_between_2 : decode cX1_between 2 = .ok (.iconst 1, 1) := by decide +kernel
theorem dX1_between_3 : decode cX1_between 3 = .ok (.invokevirtual 94, 3) := by decide +kernel
theorem dX1_between_6 : decode cX1_between 6 = .ok (.ifCond .ne 17, 3) := by decide +kernel
theorem dX1_between_9 : decode cX1_between 9 = .ok (.aload_n 0, 1) := by decide +kernel
theorem dX1_between_10 : decode cX1_between 10 = .ok (.iload_n 2, 1) := by decide +kernel
theorem dX1_between_11 : decode cX1_between 11 = .ok (.iconst 1, 1) := by decide +kernel
theorem dX1_between_12 : decode cX1_between 12 = .ok (.invokevirtual 94, 3) := by decide +kernel
theorem dX1_between_15 : decode cX1_between 15 = .ok (.ifCond .ne 8, 3) := by decide +kernel
theorem dX1_between_18 : decode cX1_between 18 = .ok (.iload_n 2, 1) := by decide +kernel
theorem dX1_between_19 : decode cX1_between 19 = .ok (.iload_n 1, 1) := by decide +kernel
theorem dX1_between_20 : decode cX1_between 20 = .ok (.if_icmp .gt 5, 3) := by decide +kernel
theorem dX1_between_23 : decode cX1_between 23 = .ok (.iconst 0, 1) := by decide +kernel
theorem dX1_between_24 : decode cX1_between 24 = .ok (.ireturn, 1) := by decide +kernel
theorem dX1_between_25 : decode cX1_between 25 = .ok (.iload_n 2, 1) := by decide +kernel
theorem dX1_between_26 : decode cX1_between 26 = .ok (.iload_n 3, 1) := by decide +kernel
theorem dX1_between_27 : decode cX1_between 27 = .ok (.invokestatic 107, 3) := by decide +kernel
theorem dX1_between_30 : decode cX1_between 30 = .ok (.iload_n 1, 1) := by decide +kernel
theorem dX1_between_31 : decode cX1_between 31 = .ok (.iload_n 3, 1) := by decide +kernel
theorem dX1_between_32 : decode cX1_between 32 = .ok (.invokestatic 107, 3) := by decide +kernel
theorem dX1_between_35 : decode cX1_between 35 = .ok (.isub, 1) := by decide +kernel
theorem dX1_between_36 : decode cX1_between 36 = .ok (.ireturn, 1) := by decide +kernel
theorem dX1_join_0 : decode cX1_join 0 = .ok (.aload_n 0, 1) := by decide +kernel
theorem dX1_join_1 : decode cX1_join 1 = .ok (.iload_n 1, 1) := by decide +kernel
theorem dX1_join_2 : decode cX1_join 2 = .ok (.invokevirtual 63, 3) := by decide +kernel
theorem dX1_join_5 : decode cX1_join 5 = .ok (.ifCond .ne 25, 3) := by decide +kernel
theorem dX1_join_8 : decode cX1_join 8 = .ok (.aload_n 0, 1) := by decide +kernel
theorem dX1_join_9 : decode cX1_join 9 = .ok (.aload_n 0, 1) := by decide +kernel
theorem dX1_join_10 : decode cX1_join 10 = .ok (.getfield 60, 3) := by decide +kernel
theorem dX1_join_13 : decode cX1_join 13 = .ok (.bipush 12, 2) := by decide +kernel
theorem dX1_join_15 : decode cX1_join 15 = .ok (.if_icmp .ne 7, 3) := by decide +kernel
theorem dX1_join_18 : decode cX1_join 18 = .ok (.iconst 1, 1) := by decide +kernel
theorem dX1_join_19 : decode cX1_join 19 = .ok (.goto 4, 3) := by decide +kernel
theorem dX1_join_22 : decode cX1_join 22 = .ok (.iconst 0, 1) := by decide +kernel
theorem dX1_join_23 : decode cX1_join 23 = .ok (.iconst 3, 1) := by decide +kernel
theorem dX1_join_24 : decode cX1_join 24 = .ok (.invokevirtual 31, 3) := by decide +kernel
theorem dX1_join_27 : decode cX1_join 27 = .ok (.ifCond .eq 5, 3) := by decide +kernel
theorem dX1_join_30 : decode cX1_join 30 = .ok (.iconst 0, 1) := by decide +kernel
theorem dX1_join_31 : decode cX1_join 31 = .ok (.ireturn, 1) := by decide +kernel
theorem dX1_join_32 : decode cX1_join 32 = .ok (.aload_n 0, 1) := by decide +kernel
theorem dX1_join_33 : decode cX1_join 33 = .ok (.getfield 20, 3) := by decide +kernel
theorem dX1_join_36 : decode cX1_join 36 = .ok (.aload_n 0, 1) := by decide +kernel
theorem dX1_join_37 : decode cX1_join 37 = .ok (.getfield 60, 3) := by decide +kernel
theorem dX1_join_40 : decode cX1_join 40 = .ok (.iload_n 1, 1) := by decide +kernel
theorem dX1_join_41 : decode cX1_join 41 = .ok (.iastore, 1) := by decide +kernel
theorem dX1_join_42 : decode cX1_join 42 = .ok (.aload_n 0, 1) := by decide +kernel
theorem dX1_join_43 : decode cX1_join 43 = .ok (.dup, 1) := by decide +kernel
theorem dX1_join_44 : decode cX1_join 44 = .ok (.getfield 60, 3) := by decide +kernel
theorem dX1_join_47 : decode cX1_join 47 = .ok (.iconst 1, 1) := by decide +kernel
theorem dX1_join_48 : decode cX1_join 48 = .ok (.iadd, 1) := by decide +kernel
theorem dX1_join_49 : decode cX1_join 49 = .ok (.putfield 60, 3) := by decide +kernel
theorem dX1_join_52 : decode cX1_join 52 = .ok (.aload_n 0, 1) := by decide +kernel
theorem dX1_join_53 : decode cX1_join 53 = .ok (.getfield 60, 3) := by decide +kernel
theorem dX1_join_56 : decode cX1_join 56 = .ok (.ireturn, 1) := by decide +kernel
theorem dX1_unjoin_0 : decode cX1_unjoin 0 = .ok (.aload_n 0, 1) := by decide +kernel
theorem dX1_unjoin_1 : decode cX1_unjoin 1 = .ok (.aload_n 0, 1) := by decide +kernel
theorem dX1_unjoin_2 : decode cX1_unjoin 2 = .ok (.getfield 60, 3) := by decide +kernel
theorem dX1_unjoin_5 : decode cX1_unjoin 5 = .ok (.ifCond .ne 7, 3) := by decide +kernel
theorem dX1_unjoin_8 : decode cX1_unjoin 8 = .ok (.iconst 1, 1) := by decide +kernel
theorem dX1_unjoin_9 : decode cX1_unjoin 9 = .ok (.goto 4, 3) := by decide +kernel
theorem dX1_unjoin_12 : decode cX1_unjoin 12 = .ok (.iconst 0, 1) := by decide +kernel
theorem dX1_unjoin_13 : decode cX1_unjoin 13 = .ok (.iconst 1, 1) := by decide +kernel
theorem dX1_unjoin_14 : decode cX1_unjoin 14 = .ok (.invokevirtual 31, 3) := by decide +kernel
theorem dX1_unjoin_17 : decode cX1_unjoin 17 = .ok (.ifCond .eq 5, 3) := by decide +kernel
theorem dX1_unjoin_20 : decode cX1_unjoin 20 = .ok (.iconst 0, 1) := by decide +kernel
theorem dX1_unjoin_21 : decode cX1_unjoin 21 = .ok (.ireturn, 1) := by decide +kernel
theorem dX1_unjoin_22 : decode cX1_unjoin 22 = .ok (.aload_n 0, 1) := by decide +kernel
theorem dX1_unjoin_23 : decode cX1_unjoin 23 = .ok (.dup, 1) := by decide +kernel
theorem dX1_unjoin_24 : decode cX1_unjoin 24 = .ok (.getfield 60, 3) := by decide +kernel
theorem dX1_unjoin_27 : decode cX1_unjoin 27 = .ok (.iconst 1, 1) := by decide +kernel
theorem dX1_unjoin_28 : decode cX1_unjoin 28 = .ok (.isub, 1) := by decide +kernel
theorem dX1_unjoin_29 : decode cX1_unjoin 29 = .ok (.putfield 60, 3) := by decide +kernel
theorem dX1_unjoin_32 : decode cX1_unjoin 32 = .ok (.aload_n 0, 1) := by decide +kernel
theorem dX1_unjoin_33 : decode cX1_unjoin 33 = .ok (.getfield 20, 3) := by decide +kernel
theorem dX1_unjoin_36 : decode cX1_unjoin 36 = .ok (.aload_n 0, 1) := by decide +kernel
theorem dX1_unjoin_37 : decode cX1_unjoin 37 = .ok (.getfield 60, 3) := by decide +kernel
theorem dX1_unjoin_40 : decode cX1_unjoin 40 = .ok (.iaload, 1) := by decide +kernel
theorem dX1_unjoin_41 : decode cX1_unjoin 41 = .ok (.ireturn, 1) := by decide +kernel
theorem dX1_ringAt_0 : decode cX1_ringAt 0 = .ok (.aload_n 0, 1) := by decide +kernel
theorem dX1_ringAt_1 : decode cX1_ringAt 1 = .ok (.iload_n 1, 1) := by decide +kernel
theorem dX1_ringAt_2 : decode cX1_ringAt 2 = .ok (.iconst 0, 1) := by decide +kernel
theorem dX1_ringAt_3 : decode cX1_ringAt 3 = .ok (.aload_n 0, 1) := by decide +kernel
theorem dX1_ringAt_4 : decode cX1_ringAt 4 = .ok (.getfield 60, 3) := by decide +kernel
theorem dX1_ringAt_7 : decode cX1_ringAt 7 = .ok (.iconst 1, 1) := by decide +kernel
theorem dX1_ringAt_8 : decode cX1_ringAt 8 = .ok (.isub, 1) := by decide +kernel
theorem dX1_ringAt_9 : decode cX1_ringAt 9 = .ok (.invokestatic 27, 3) := by decide +kernel
theorem dX1_ringAt_12 : decode cX1_ringAt 12 = .ok (.ifCond .ne 7, 3) := by decide +kernel
theorem dX1_ringAt_15 : decode cX1_ringAt 15 = .ok (.iconst 1, 1) := by decide +kernel
theorem dX1_ringAt_16 : decode cX1_ringAt 16 = .ok (.goto 4, 3) := by decide +kernel
theorem dX1_ringAt_19 : decode cX1_ringAt 19 = .ok (.iconst 0, 1) := by decide +kernel
theorem dX1_ringAt_20 : decode cX1_ringAt 20 = .ok (.iconst 1, 1) := by decide +kernel
theorem dX1_ringAt_21 : decode cX1_ringAt 21 = .ok (.invokevirtual 31, 3) := by decide +kernel
theorem dX1_ringAt_24 : decode cX1_ringAt 24 = .ok (.ifCond .eq 7, 3) := by decide +kernel
theorem dX1_ringAt_27 : decode cX1_ringAt 27 = .ok (.iconst 0, 1) := by decide +kernel
theorem dX1_ringAt_28 : decode cX1_ringAt 28 = .ok (.goto 9, 3) := by decide +kernel
theorem dX1_ringAt_31 : decode cX1_ringAt 31 = .ok (.aload_n 0, 1) := by decide +kernel
theorem dX1_ringAt_32 : decode cX1_ringAt 32 = .ok (.getfield 20, 3) := by decide +kernel
theorem dX1_ringAt_35 : decode cX1_ringAt 35 = .ok (.iload_n 1, 1) := by decide +kernel
theorem dX1_ringAt_36 : decode cX1_ringAt 36 = .ok (.iaload, 1) := by decide +kernel
theorem dX1_ringAt_37 : decode cX1_ringAt 37 = .ok (.ireturn, 1) := by decide +kernel
theorem dX1_behind_0 : decode cX1_behind 0 = .ok (.aload_n 0, 1) := by decide +kernel
theorem dX1_behind_1 : decode cX1_behind 1 = .ok (.getfield 20, 3) := by decide +kernel
theorem dX1_behind_4 : decode cX1_behind 4 = .ok (.iload_n 1, 1) := by decide +kernel
theorem dX1_behind_5 : decode cX1_behind 5 = .ok (.iconst 1, 1) := by decide +kernel
theorem dX1_behind_6 : decode cX1_behind 6 = .ok (.iadd, 1) := by decide +kernel
theorem dX1_behind_7 : decode cX1_behind 7 = .ok (.aload_n 0, 1) := by decide +kernel
theorem dX1_behind_8 : decode cX1_behind 8 = .ok (.getfield 60, 3) := by decide +kernel
theorem dX1_behind_11 : decode cX1_behind 11 = .ok (.if_icmp .ne 7, 3) := by decide +kernel
theorem dX1_behind_14 : decode cX1_behind 14 = .ok (.iconst 0, 1) := by decide +kernel
theorem dX1_behind_15 : decode cX1_behind 15 = .ok (.goto 6, 3) := by decide +kernel
theorem dX1_behind_18 : decode cX1_behind 18 = .ok (.iload_n 1, 1) := by decide +kernel
theorem dX1_behind_19 : decode cX1_behind 19 = .ok (.iconst 1, 1) := by decide +kernel
theorem dX1_behind_20 : decode cX1_behind 20 = .ok (.iadd, 1) := by decide +kernel
theorem dX1_behind_21 : decode cX1_behind 21 = .ok (.iaload, 1) := by decide +kernel
theorem dX1_behind_22 : decode cX1_behind 22 = .ok (.ireturn, 1) := by decide +kernel
theorem dX1_around_0 : decode cX1_around 0 = .ok (.iconst 0, 1) := by decide +kernel
theorem dX1_around_1 : decode cX1_around 1 = .ok (.istore_n 1, 1) := by decide +kernel
theorem dX1_around_2 : decode cX1_around 2 = .ok (.iconst 0, 1) := by decide +kernel
theorem dX1_around_3 : decode cX1_around 3 = .ok (.istore_n 2, 1) := by decide +kernel
theorem dX1_around_4 : decode cX1_around 4 = .ok (.iload_n 2, 1) := by decide +kernel
theorem dX1_around_5 : decode cX1_around 5 = .ok (.aload_n 0, 1) := by decide +kernel
theorem dX1_around_6 : decode cX1_around 6 = .ok (.getfield 60, 3) := by decide +kernel
theorem dX1_around_9 : decode cX1_around 9 = .ok (.if_icmp .ge 27, 3) := by decide +kernel
theorem dX1_around_12 : decode cX1_around 12 = .ok (.iload_n 1, 1) := by decide +kernel
theorem dX1_around_13 : decode cX1_around 13 = .ok (.aload_n 0, 1) := by decide +kernel
theorem dX1_around_14 : decode cX1_around 14 = .ok (.aload_n 0, 1) := by decide +kernel
theorem dX1_around_15 : decode cX1_around 15 = .ok (.getfield 20, 3) := by decide +kernel
theorem dX1_around_18 : decode cX1_around 18 = .ok (.iload_n 2, 1) := by decide +kernel
theorem dX1_around_19 : decode cX1_around 19 = .ok (.iaload, 1) := by decide +kernel
theorem dX1_around_20 : decode cX1_around 20 = .ok (.aload_n 0, 1) := by decide +kernel
theorem dX1_around_21 : decode cX1_around 21 = .ok (.iload_n 2, 1) := by decide +kernel
theorem dX1_around_22 : decode cX1_around 22 = .ok (.invokevirtual 110, 3) := by decide +kernel
theorem dX1_around_25 : decode cX1_around 25 = .ok (.invokevirtual 80, 3) := by decide +kernel
theorem dX1_around_28 : decode cX1_around 28 = .ok (.iadd, 1) := by decide +kernel
theorem dX1_around_29 : decode cX1_around 29 = .ok (.istore_n 1, 1) := by decide +kernel
theorem dX1_around_30 : decode cX1_around 30 = .ok (.iinc 2 1, 3) := by decide +kernel
theorem dX1_around_33 : decode cX1_around 33 = .ok (.goto (-29), 3) := by decide +kernel
theorem dX1_around_36 : decode cX1_around 36 = .ok (.iload_n 1, 1) := by decide +kernel
theorem dX1_around_37 : decode cX1_around 37 = .ok (.ireturn, 1) := by decide +kernel
theorem dX1_doubleArea_0 : decode cX1_doubleArea 0 = .ok (.iconst 0, 1) := by decide +kernel
theorem dX1_doubleArea_1 : decode cX1_doubleArea 1 = .ok (.istore_n 1, 1) := by decide +kernel
theorem dX1_doubleArea_2 : decode cX1_doubleArea 2 = .ok (.iconst 0, 1) := by decide +kernel
theorem dX1_doubleArea_3 : decode cX1_doubleArea 3 = .ok (.istore_n 2, 1) := by decide +kernel
theorem dX1_doubleArea_4 : decode cX1_doubleArea 4 = .ok (.iload_n 2, 1) := by decide +kernel
theorem dX1_doubleArea_5 : decode cX1_doubleArea 5 = .ok (.aload_n 0, 1) := by decide +kernel
theorem dX1_doubleArea_6 : decode cX1_doubleArea 6 = .ok (.getfield 60, 3) := by decide +kernel
theorem dX1_doubleArea_9 : decode cX1_doubleArea 9 = .ok (.if_icmp .ge 57, 3) := by decide +kernel
theorem dX1_doubleArea_12 : decode cX1_doubleArea 12 = .ok (.iload_n 1, 1) := by decide +kernel
theorem dX1_doubleArea_13 : decode cX1_doubleArea 13 = .ok (.aload_n 0, 1) := by decide +kernel
theorem dX1_doubleArea_14 : decode cX1_doubleArea 14 = .ok (.getfield 13, 3) := by decide +kernel
theorem dX1_doubleArea_17 : decode cX1_doubleArea 17 = .ok (.aload_n 0, 1) := by decide +kernel
theorem dX1_doubleArea_18 : decode cX1_doubleArea 18 = .ok (.getfield 20, 3) := by decide +kernel
theorem dX1_doubleArea_21 : decode cX1_doubleArea 21 = .ok (.iload_n 2, 1) := by decide +kernel
theorem dX1_doubleArea_22 : decode cX1_doubleArea 22 = .ok (.iaload, 1) := by decide +kernel
theorem dX1_doubleArea_23 : decode cX1_doubleArea 23 = .ok (.iaload, 1) := by decide +kernel
theorem dX1_doubleArea_24 : decode cX1_doubleArea 24 = .ok (.aload_n 0, 1) := by decide +kernel
theorem dX1_doubleArea_25 : decode cX1_doubleArea 25 = .ok (.getfield 17, 3) := by decide +kernel
theorem dX1_doubleArea_28 : decode cX1_doubleArea 28 = .ok (.aload_n 0, 1) := by decide +kernel
theorem dX1_doubleArea_29 : decode cX1_doubleArea 29 = .ok (.iload_n 2, 1) := by decide +kernel
theorem dX1_doubleArea_30 : decode cX1_doubleArea 30 = .ok (.invokevirtual 110, 3) := by decide +kernel
theorem dX1_doubleArea_33 : decode cX1_doubleArea 33 = .ok (.iaload, 1) := by decide +kernel
theorem dX1_doubleArea_34 : decode cX1_doubleArea 34 = .ok (.imul, 1) := by decide +kernel
theorem dX1_doubleArea_35 : decode cX1_doubleArea 35 = .ok (.aload_n 0, 1) := by decide +kernel
theorem dX1_doubleArea_36 : decode cX1_doubleArea 36 = .ok (.getfield 13, 3) := by decide +kernel
theorem dX1_doubleArea_39 : decode cX1_doubleArea 39 = .ok (.aload_n 0, 1) := by decide +kernel
theorem dX1_doubleArea_40 : decode cX1_doubleArea 40 = .ok (.iload_n 2, 1) := by decide +kernel
theorem dX1_doubleArea_41 : decode cX1_doubleArea 41 = .ok (.invokevirtual 110, 3) := by decide +kernel
theorem dX1_doubleArea_44 : decode cX1_doubleArea 44 = .ok (.iaload, 1) := by decide +kernel
theorem dX1_doubleArea_45 : decode cX1_doubleArea 45 = .ok (.aload_n 0, 1) := by decide +kernel
theorem dX1_doubleArea_46 : decode cX1_doubleArea 46 = .ok (.getfield 17, 3) := by decide +kernel
theorem dX1_doubleArea_49 : decode cX1_doubleArea 49 = .ok (.aload_n 0, 1) := by decide +kernel
theorem dX1_doubleArea_50 : decode cX1_doubleArea 50 = .ok (.getfield 20, 3) := by decide +kernel
theorem dX1_doubleArea_53 : decode cX1_doubleArea 53 = .ok (.iload_n 2, 1) := by decide +kernel
theorem dX1_doubleArea_54 : decode cX1_doubleArea 54 = .ok (.iaload, 1) := by decide +kernel
theorem dX1_doubleArea_55 : decode cX1_doubleArea 55 = .ok (.iaload, 1) := by decide +kernel
theorem dX1_doubleArea_56 : decode cX1_doubleArea 56 = .ok (.imul, 1) := by decide +kernel
theorem dX1_doubleArea_57 : decode cX1_doubleArea 57 = .ok (.isub, 1) := by decide +kernel
theorem dX1_doubleArea_58 : decode cX1_doubleArea 58 = .ok (.iadd, 1) := by decide +kernel
theorem dX1_doubleArea_59 : decode cX1_doubleArea 59 = .ok (.istore_n 1, 1) := by decide +kernel
theorem dX1_doubleArea_60 : decode cX1_doubleArea 60 = .ok (.iinc 2 1, 3) := by decide +kernel
theorem dX1_doubleArea_63 : decode cX1_doubleArea 63 = .ok (.goto (-59), 3) := by decide +kernel
theorem dX1_doubleArea_66 : decode cX1_doubleArea 66 = .ok (.iload_n 1, 1) := by decide +kernel
theorem dX1_doubleArea_67 : decode cX1_doubleArea 67 = .ok (.ireturn, 1) := by decide +kernel
theorem dX1_sideBits_0 : decode cX1_sideBits 0 = .ok (.aload_n 0, 1) := by decide +kernel
theorem dX1_sideBits_1 : decode cX1_sideBits 1 = .ok (.invokevirtual 113, 3) := by decide +kernel
theorem dX1_sideBits_4 : decode cX1_sideBits 4 = .ok (.ifCond .ge 11, 3) := by decide +kernel
theorem dX1_sideBits_7 : decode cX1_sideBits 7 = .ok (.aload_n 0, 1) := by decide +kernel
theorem dX1_sideBits_8 : decode cX1_sideBits 8 = .ok (.invokevirtual 113, 3) := by decide +kernel
theorem dX1_sideBits_11 : decode cX1_sideBits 11 = .ok (.ineg, 1) := by decide +kernel
theorem dX1_sideBits_12 : decode cX1_sideBits 12 = .ok (.goto 7, 3) := by decide +kernel
theorem dX1_sideBits_15 : decode cX1_sideBits 15 = .ok (.aload_n 0, 1) := by decide +kernel
theorem dX1_sideBits_16 : decode cX1_sideBits 16 = .ok (.invokevirtual 113, 3) := by decide +kernel
theorem dX1_sideBits_19 : decode cX1_sideBits 19 = .ok (.istore_n 1, 1) := by decide +kernel
theorem dX1_sideBits_20 : decode cX1_sideBits 20 = .ok (.aload_n 0, 1) := by decide +kernel
theorem dX1_sideBits_21 : decode cX1_sideBits 21 = .ok (.iload_n 1, 1) := by decide +kernel
theorem dX1_sideBits_22 : decode cX1_sideBits 22 = .ok (.sipush 32767, 3) := by decide +kernel
theorem dX1_sideBits_25 : decode cX1_sideBits 25 = .ok (.if_icmp .le 7, 3) := by decide +kernel
theorem dX1_sideBits_28 : decode cX1_sideBits 28 = .ok (.iconst 1, 1) := by decide +kernel
theorem dX1_sideBits_29 : decode cX1_sideBits 29 = .ok (.goto 4, 3) := by decide +kernel
theorem dX1_sideBits_32 : decode cX1_sideBits 32 = .ok (.iconst 0, 1) := by decide +kernel
theorem dX1_sideBits_33 : decode cX1_sideBits 33 = .ok (.iconst 1, 1) := by decide +kernel
theorem dX1_sideBits_34 : decode cX1_sideBits 34 = .ok (.invokevirtual 31, 3) := by decide +kernel
theorem dX1_sideBits_37 : decode cX1_sideBits 37 = .ok (.ifCond .eq 7, 3) := by decide +kernel
theorem dX1_sideBits_40 : decode cX1_sideBits 40 = .ok (.lconst 0, 1) := by decide +kernel
theorem dX1_sideBits_41 : decode cX1_sideBits 41 = .ok (.goto 8, 3) := by decide +kernel
theorem dX1_sideBits_44 : decode cX1_sideBits 44 = .ok (.iload_n 1, 1) := by decide +kernel
theorem dX1_sideBits_45 : decode cX1_sideBits 45 = .ok (.iconst 0, 1) := by decide +kernel
theorem dX1_sideBits_46 : decode cX1_sideBits 46 = .ok (.invokestatic 103, 3) := by decide +kernel
theorem dX1_sideBits_49 : decode cX1_sideBits 49 = .ok (.lreturn, 1) := by decide +kernel
theorem dX1_checksum_0 : decode cX1_checksum 0 = .ok (.ldc2_w 116, 3) := by decide +kernel
theorem dX1_checksum_3 : decode cX1_checksum 3 = .ok (.lstore_n 1, 1) := by decide +kernel
theorem dX1_checksum_4 : decode cX1_checksum 4 = .ok (.iconst 0, 1) := by decide +kernel
theorem dX1_checksum_5 : decode cX1_checksum 5 = .ok (.istore_n 3, 1) := by decide +kernel
theorem dX1_checksum_6 : decode cX1_checksum 6 = .ok (.iload_n 3, 1) := by decide +kernel
theorem dX1_checksum_7 : decode cX1_checksum 7 = .ok (.bipush 12, 2) := by decide +kernel
theorem dX1_checksum_9 : decode cX1_checksum 9 = .ok (.if_icmp .ge 55, 3) := by decide +kernel
theorem dX1_checksum_12 : decode cX1_checksum 12 = .ok (.aload_n 0, 1) := by decide +kernel
theorem dX1_checksum_13 : decode cX1_checksum 13 = .ok (.getfield 7, 3) := by decide +kernel
theorem dX1_checksum_16 : decode cX1_checksum 16 = .ok (.iload_n 3, 1) := by decide +kernel
theorem dX1_checksum_17 : decode cX1_checksum 17 = .ok (.baload, 1) := by decide +kernel
theorem dX1_checksum_18 : decode cX1_checksum 18 = .ok (.ifCond .eq 40, 3) := by decide +kernel
theorem dX1_checksum_21 : decode cX1_checksum 21 = .ok (.ldc2_w 118, 3) := by decide +kernel
theorem dX1_checksum_24 : decode cX1_checksum 24 = .ok (.lload_n 1, 1) := by decide +kernel
theorem dX1_checksum_25 : decode cX1_checksum 25 = .ok (.lmul, 1) := by decide +kernel
theorem dX1_checksum_26 : decode cX1_checksum 26 = .ok (.iload_n 3, 1) := by decide +kernel
theorem dX1_checksum_27 : decode cX1_checksum 27 = .ok (.i2l, 1) := by decide +kernel
theorem dX1_checksum_28 : decode cX1_checksum 28 = .ok (.ladd, 1) := by decide +kernel
theorem dX1_checksum_29 : decode cX1_checksum 29 = .ok (.lconst 1, 1) := by decide +kernel
theorem dX1_checksum_30 : decode cX1_checksum 30 = .ok (.ladd, 1) := by decide +kernel
theorem dX1_checksum_31 : decode cX1_checksum 31 = .ok (.lstore_n 1, 1) := by decide +kernel
theorem dX1_checksum_32 : decode cX1_checksum 32 = .ok (.ldc2_w 118, 3) := by decide +kernel
theorem dX1_checksum_35 : decode cX1_checksum 35 = .ok (.lload_n 1, 1) := by decide +kernel
theorem dX1_checksum_36 : decode cX1_checksum 36 = .ok (.lmul, 1) := by decide +kernel
theorem dX1_checksum_37 : decode cX1_checksum 37 = .ok (.aload_n 0, 1) := by decide +kernel
theorem dX1_checksum_38 : decode cX1_checksum 38 = .ok (.iload_n 3, 1) := by decide +kernel
theorem dX1_checksum_39 : decode cX1_checksum 39 = .ok (.invokevirtual 69, 3) := by decide +kernel
theorem dX1_checksum_42 : decode cX1_checksum 42 = .ok (.i2l, 1) := by decide +kernel
theorem dX1_checksum_43 : decode cX1_checksum 43 = .ok (.ladd, 1) := by decide +kernel
theorem dX1_checksum_44 : decode cX1_checksum 44 = .ok (.lstore_n 1, 1) := by decide +kernel
theorem dX1_checksum_45 : decode cX1_checksum 45 = .ok (.ldc2_w 118, 3) := by decide +kernel
theorem dX1_checksum_48 : decode cX1_checksum 48 = .ok (.lload_n 1, 1) := by decide +kernel
theorem dX1_checksum_49 : decode cX1_checksum 49 = .ok (.lmul, 1) := by decide +kernel
theorem dX1_checksum_50 : decode cX1_checksum 50 = .ok (.aload_n 0, 1) := by decide +kernel
theorem dX1_checksum_51 : decode cX1_checksum 51 = .ok (.iload_n 3, 1) := by decide +kernel
theorem dX1_checksum_52 : decode cX1_checksum 52 = .ok (.invokevirtual 91, 3) := by decide +kernel
theorem dX1_checksum_55 : decode cX1_checksum 55 = .ok (.i2l, 1) := by decide +kernel
theorem dX1_checksum_56 : decode cX1_checksum 56 = .ok (.ladd, 1) := by decide +kernel
theorem dX1_checksum_57 : decode cX1_checksum 57 = .ok (.lstore_n 1, 1) := by decide +kernel
theorem dX1_checksum_58 : decode cX1_checksum 58 = .ok (.iinc 3 1, 3) := by decide +kernel
theorem dX1_checksum_61 : decode cX1_checksum 61 = .ok (.goto (-55), 3) := by decide +kernel
theorem dX1_checksum_64 : decode cX1_checksum 64 = .ok (.iconst 0, 1) := by decide +kernel
theorem dX1_checksum_65 : decode cX1_checksum 65 = .ok (.istore_n 3, 1) := by decide +kernel
theorem dX1_checksum_66 : decode cX1_checksum 66 = .ok (.iload_n 3, 1) := by decide +kernel
theorem dX1_checksum_67 : decode cX1_checksum 67 = .ok (.aload_n 0, 1) := by decide +kernel
theorem dX1_checksum_68 : decode cX1_checksum 68 = .ok (.getfield 60, 3) := by decide +kernel
theorem dX1_checksum_71 : decode cX1_checksum 71 = .ok (.if_icmp .ge 23, 3) := by decide +kernel
theorem dX1_checksum_74 : decode cX1_checksum 74 = .ok (.ldc2_w 118, 3) := by decide +kernel
theorem dX1_checksum_77 : decode cX1_checksum 77 = .ok (.lload_n 1, 1) := by decide +kernel
theorem dX1_checksum_78 : decode cX1_checksum 78 = .ok (.lmul, 1) := by decide +kernel
theorem dX1_checksum_79 : decode cX1_checksum 79 = .ok (.aload_n 0, 1) := by decide +kernel
theorem dX1_checksum_80 : decode cX1_checksum 80 = .ok (.getfield 20, 3) := by decide +kernel
theorem dX1_checksum_83 : decode cX1_checksum 83 = .ok (.iload_n 3, 1) := by decide +kernel
theorem dX1_checksum_84 : decode cX1_checksum 84 = .ok (.iaload, 1) := by decide +kernel
theorem dX1_checksum_85 : decode cX1_checksum 85 = .ok (.i2l, 1) := by decide +kernel
theorem dX1_checksum_86 : decode cX1_checksum 86 = .ok (.ladd, 1) := by decide +kernel
theorem dX1_checksum_87 : decode cX1_checksum 87 = .ok (.lstore_n 1, 1) := by decide +kernel
theorem dX1_checksum_88 : decode cX1_checksum 88 = .ok (.iinc 3 1, 3) := by decide +kernel
theorem dX1_checksum_91 : decode cX1_checksum 91 = .ok (.goto (-25), 3) := by decide +kernel
theorem dX1_checksum_94 : decode cX1_checksum 94 = .ok (.ldc2_w 118, 3) := by decide +kernel
theorem dX1_checksum_97 : decode cX1_checksum 97 = .ok (.lload_n 1, 1) := by decide +kernel
theorem dX1_checksum_98 : decode cX1_checksum 98 = .ok (.lmul, 1) := by decide +kernel
theorem dX1_checksum_99 : decode cX1_checksum 99 = .ok (.aload_n 0, 1) := by decide +kernel
theorem dX1_checksum_100 : decode cX1_checksum 100 = .ok (.invokevirtual 120, 3) := by decide +kernel
theorem dX1_checksum_103 : decode cX1_checksum 103 = .ok (.i2l, 1) := by decide +kernel
theorem dX1_checksum_104 : decode cX1_checksum 104 = .ok (.ladd, 1) := by decide +kernel
theorem dX1_checksum_105 : decode cX1_checksum 105 = .ok (.lstore_n 1, 1) := by decide +kernel
theorem dX1_checksum_106 : decode cX1_checksum 106 = .ok (.ldc2_w 118, 3) := by decide +kernel
theorem dX1_checksum_109 : decode cX1_checksum 109 = .ok (.lload_n 1, 1) := by decide +kernel
theorem dX1_checksum_110 : decode cX1_checksum 110 = .ok (.lmul, 1) := by decide +kernel
theorem dX1_checksum_111 : decode cX1_checksum 111 = .ok (.aload_n 0, 1) := by decide +kernel
theorem dX1_checksum_112 : decode cX1_checksum 112 = .ok (.getfield 72, 3) := by decide +kernel
theorem dX1_checksum_115 : decode cX1_checksum 115 = .ok (.ifCond .eq 7, 3) := by decide +kernel
theorem dX1_checksum_118 : decode cX1_checksum 118 = .ok (.iconst 1, 1) := by decide +kernel
theorem dX1_checksum_119 : decode cX1_checksum 119 = .ok (.goto 4, 3) := by decide +kernel
theorem dX1_checksum_122 : decode cX1_checksum 122 = .ok (.iconst 0, 1) := by decide +kernel
theorem dX1_checksum_123 : decode cX1_checksum 123 = .ok (.i2l, 1) := by decide +kernel
theorem dX1_checksum_124 : decode cX1_checksum 124 = .ok (.ladd, 1) := by decide +kernel
theorem dX1_checksum_125 : decode cX1_checksum 125 = .ok (.lreturn, 1) := by decide +kernel
theorem dX1_isSound_0 : decode cX1_isSound 0 = .ok (.iconst 1, 1) := by decide +kernel
theorem dX1_isSound_1 : decode cX1_isSound 1 = .ok (.istore_n 1, 1) := by decide +kernel
theorem dX1_isSound_2 : decode cX1_isSound 2 = .ok (.iconst 0, 1) := by decide +kernel
theorem dX1_isSound_3 : decode cX1_isSound 3 = .ok (.istore_n 2, 1) := by decide +kernel
theorem dX1_isSound_4 : decode cX1_isSound 4 = .ok (.iload_n 2, 1) := by decide +kernel
theorem dX1_isSound_5 : decode cX1_isSound 5 = .ok (.bipush 12, 2) := by decide +kernel
theorem dX1_isSound_7 : decode cX1_isSound 7 = .ok (.if_icmp .ge 88, 3) := by decide +kernel
theorem dX1_isSound_10 : decode cX1_isSound 10 = .ok (.iconst 0, 1) := by decide +kernel
theorem dX1_isSound_11 : decode cX1_isSound 11 = .ok (.istore_n 3, 1) := by decide +kernel
theorem dX1_isSound_12 : decode cX1_isSound 12 = .ok (.iload_n 3, 1) := by decide +kernel
theorem dX1_isSound_13 : decode cX1_isSound 13 = .ok (.bipush 12, 2) := by decide +kernel
theorem dX1_isSound_15 : decode cX1_isSound 15 = .ok (.if_icmp .ge 74, 3) := by decide +kernel
theorem dX1_isSound_18 : decode cX1_isSound 18 = .ok (.iconst 0, 1) := by decide +kernel
theorem dX1_isSound_19 : decode cX1_isSound 19 = .ok (.istore 4, 2) := by decide +kernel
theorem dX1_isSound_21 : decode cX1_isSound 21 = .ok (.iload 4, 2) := by decide +kernel
theorem dX1_isSound_23 : decode cX1_isSound 23 = .ok (.bipush 12, 2) := by decide +kernel
theorem dX1_isSound_25 : decode cX1_isSound 25 = .ok (.if_icmp .ge 58, 3) := by decide +kernel
theorem dX1_isSound_28 : decode cX1_isSound 28 = .ok (.iload_n 1, 1) := by decide +kernel
theorem dX1_isSound_29 : decode cX1_isSound 29 = .ok (.ifCond .eq 46, 3) := by decide +kernel
theorem dX1_isSound_32 : decode cX1_isSound 32 = .ok (.aload_n 0, 1) := by decide +kernel
theorem dX1_isSound_33 : decode cX1_isSound 33 = .ok (.getfield 7, 3) := by decide +kernel
theorem dX1_isSound_36 : decode cX1_isSound 36 = .ok (.iload_n 2, 1) := by decide +kernel
theorem dX1_isSound_37 : decode cX1_isSound 37 = .ok (.baload, 1) := by decide +kernel
theorem dX1_isSound_38 : decode cX1_isSound 38 = .ok (.ifCond .eq 33, 3) := by decide +kernel
theorem dX1_isSound_41 : decode cX1_isSound 41 = .ok (.aload_n 0, 1) := by decide +kernel
theorem dX1_isSound_42 : decode cX1_isSound 42 = .ok (.getfield 7, 3) := by decide +kernel
theorem dX1_isSound_45 : decode cX1_isSound 45 = .ok (.iload_n 3, 1) := by decide +kernel
theorem dX1_isSound_46 : decode cX1_isSound 46 = .ok (.baload, 1) := by decide +kernel
theorem dX1_isSound_47 : decode cX1_isSound 47 = .ok (.ifCond .eq 24, 3) := by decide +kernel
theorem dX1_isSound_50 : decode cX1_isSound 50 = .ok (.aload_n 0, 1) := by decide +kernel
theorem dX1_isSound_51 : decode cX1_isSound 51 = .ok (.getfield 7, 3) := by decide +kernel
theorem dX1_isSound_54 : decode cX1_isSound 54 = .ok (.iload 4, 2) := by decide +kernel
theorem dX1_isSound_56 : decode cX1_isSound 56 = .ok (.baload, 1) := by decide +kernel
theorem dX1_isSound_57 : decode cX1_isSound 57 = .ok (.ifCond .eq 14, 3) := by decide +kernel
theorem dX1_isSound_60 : decode cX1_isSound 60 = .ok (.aload_n 0, 1) := by decide +kernel
theorem dX1_isSound_61 : decode cX1_isSound 61 = .ok (.iload_n 2, 1) := by decide +kernel
theorem dX1_isSound_62 : decode cX1_isSound 62 = .ok (.iload_n 3, 1) := by decide +kernel
theorem dX1_isSound_63 : decode cX1_isSound 63 = .ok (.iload 4, 2) := by decide +kernel
theorem dX1_isSound_65 : decode cX1_isSound 65 = .ok (.invokevirtual 84, 3) := by decide +kernel
theorem dX1_isSound_68 : decode cX1_isSound 68 = .ok (.ifCond .eq 7, 3) := by decide +kernel
theorem dX1_isSound_71 : decode cX1_isSound 71 = .ok (.iconst 1, 1) := by decide +kernel
theorem dX1_isSound_72 : decode cX1_isSound 72 = .ok (.goto 4, 3) := by decide +kernel
theorem dX1_isSound_75 : decode cX1_isSound 75 = .ok (.iconst 0, 1) := by decide +kernel
theorem dX1_isSound_76 : decode cX1_isSound 76 = .ok (.istore_n 1, 1) := by decide +kernel
theorem dX1_isSound_77 : decode cX1_isSound 77 = .ok (.iinc 4 1, 3) := by decide +kernel
theorem dX1_isSound_80 : decode cX1_isSound 80 = .ok (.goto (-59), 3) := by decide +kernel
theorem dX1_isSound_83 : decode cX1_isSound 83 = .ok (.iinc 3 1, 3) := by decide +kernel
theorem dX1_isSound_86 : decode cX1_isSound 86 = .ok (.goto (-74), 3) := by decide +kernel
theorem dX1_isSound_89 : decode cX1_isSound 89 = .ok (.iinc 2 1, 3) := by decide +kernel
theorem dX1_isSound_92 : decode cX1_isSound 92 = .ok (.goto (-88), 3) := by decide +kernel
theorem dX1_isSound_95 : decode cX1_isSound 95 = .ok (.iload_n 1, 1) := by decide +kernel
theorem dX1_isSound_96 : decode cX1_isSound 96 = .ok (.ireturn, 1) := by decide +kernel
end
section
/-! ===== the layer over the kit's rows: methods that write nothing (pg_ro), that write cells of a list (pg_wr), that throw (pg_th) ===== -/
section PGA
def pg_h (B : State → Prop) (s : State) (H : Heap) : Prop := ∀ U : State, U.heap = H → s.WarmedH U.vm → B U
def pg_st (B : State → Prop) : Prop := (∀ u U : State, U.heap = u.heap → U.vm = u.vm → B u → B U) ∧ (∀ u U : State, U.heap = u.heap → u.WarmedH U.vm → B u → B U)
theorem pg_h_of {B : State → Prop} {s : State} (h : pg_st B) (hB : B s) : pg_h B s s.heap := fun U h1 h2 => h.2 s U h1 h2 hB
theorem pg_blind {B : State → Prop} (h : pg_st B) (av : List Value) : FrameBlind (va_Pc av B) := fun a U g mk q => ⟨q.1, h.1 U (U.calling g mk a) rfl rfl q.2⟩
def pT : State → Prop := fun _ => True
theorem pT_st : pg_st pT := ⟨fun _ _ _ _ _ => trivial, fun _ _ _ _ _ => trivial⟩
theorem pT_h {s : State} {H : Heap} : pg_h pT s H := fun _ _ _ => trivial
abbrev rm (f n : Nat) : Room := { frames := f, cells := 0, slots := 0, locals := n }
abbrev rmx (f n : Nat) : Room := { frames := f, cells := 1, slots := 6, locals := n }
def pg_Q (r : Option Value) : Array Value → State → Outcome → State → Prop := fun _ st o t => o = .returned r ∧ t.heap = st.heap
/-- y returns r, and the heap is as it was -/
def pg_ro (l : Launch) (y : MethodName) (ws : List Cond) (rm : Room) (B : State → Prop) (av : List Value) (r : Option Value) : Prop :=
  Met l y ws rm (va_Pc av B) (pg_Q r) 0 0 (fun _ => False)
def pg_in (w : va_W) : Nat → Prop := fun q => ∃ (k : Nat) (e : va_E), w[k]? = some (q, e)
def pg_W (G : va_G) (tys : List (ClassId × FieldType)) (w : va_W) (U : State) : Prop := va_P G vwCl w U.heap ∧ va_K G vwCl tys U ∧ va_D (fun _ => True) w
def pg_Qw (G : va_G) (w w' : va_W) (r : Option Value) : Array Value → State → Outcome → State → Prop := fun _ st o t => o = .returned r ∧ va_P G vwCl w' t.heap ∧ va_F (pg_in w) st t
/-- y returns r, the cells w have become w', no other cell that was there has changed -/
def pg_wr (l : Launch) (y : MethodName) (ws : List Cond) (rm : Room) (G : va_G) (tys : List (ClassId × FieldType)) (B : State → Prop) (w w' : va_W) (mc ms : Nat) (av : List Value) (r : Option Value) : Prop :=
  Met l y ws rm (va_Pc av (fun U => pg_W G tys w U ∧ B U)) (pg_Qw G w w' r) mc ms (pg_in w)
def pg_XC (E : String) : String → State → State → Prop := fun E' st t => E' = E ∧ st.heap.size ≤ t.heap.size ∧ ∀ q : Nat, q < st.heap.size → t.heap[q]? = st.heap[q]?
/-- y throws an E, no cell that was there has changed -/
def pg_th (l : Launch) (y : MethodName) (ws : List Cond) (rm : Room) (B : State → Prop) (av : List Value) (E : String) : Prop :=
  vx_Met l y ws rm (va_Pc av B) (fun _ _ _ _ => False) (pg_XC E) 1 6 (fun _ => False)
end PGA
section PGB
variable {p : Program} {l : Launch} {e : Env} {R : Room} {s : State} {m : MethodId} {args : Array Value} {below : List Frame} {meth : Method} {c : Code} {H : Heap} {locs : List Loc} {cells slots : Nat} {Q : State → Prop}
variable {Ts ws ws' : List Cond} {cc bytes : ByteArray} {nL maxL index n : Nat} {own C : String} {y : MethodName} {ret : Option FieldType} {rm' : Room} {B : State → Prop} {b : Addr} {As rest st : List Value} {ls : Array Slot} {pc : Nat}
theorem pg_ro_of {av : List Value} {r : Option Value} (hy : plainName y.cls = true) (hw : ws = Cond.code y cc maxL ret :: ws') (hlen : (lg_sl av).length ≤ maxL)
    (body : ∀ (p : Program) (e : Env) (s : State) (m : MethodId) (below : List Frame) (meth : Method) (c : Code) (ls : Array Slot), CallFix p m c cc maxL s av.toArray ws y.cls → meth.sig.returnType = ret → meth.locks = false → B s → lv_has ls maxL (lv_args 0 av) →
      W p l e rm' s m av.toArray below meth c s.heap [] 0 0 (MQ below (pg_Q r) av.toArray s 0 0 (fun _ => False)) (F0 m 0 ls [])) : pg_ro l y ws rm' B av r := by
  refine Met.ofW (cc := cc) (maxL := maxL) (ret := ret) hy hw ?_
  intro p e s m args below meth c s₁ Bd hml hv
  obtain ⟨rfl, hB⟩ := hv
  have hts := atoms_spec (ws := ws) Bd.pre
  have hown : s.vm.findClass y.cls = some m.cls := findClass_of_methodNamed Bd.named
  have hl := lv_entry av (n := maxL) hlen
  rw [lg_entry_eq]
  exact body p e s m below meth c _ ⟨Bd.exec, Bd.bytes, hml, hown, hts⟩ Bd.returns Bd.notSynchronized hB hl
theorem pg_after {r : Option Value} {g : JFrame} (hr : CallRun p l e R s m args below meth c H locs cells slots 0 0 g rest (pg_Q r As.toArray) (fun _ => False)) (kk : W p l e R s m args below meth c H locs cells slots Q { g with pc := g.pc + 3, stack := r.toList ++ rest }) : W p l e R s m args below meth c H locs cells slots Q g := by
  intro T hT X
  obtain ⟨v, st₀, t, T', L, h0, X', hL, e1, ⟨hv, hh⟩, st⟩ := hr T hT X
  cases hv
  obtain ⟨t2, a1, b1⟩ := kk T' (by rw [e1, hh, h0]) (Stand.forget X' (fun q h => (hL q h).elim))
  exact ⟨t2, st t2 a1, b1⟩
theorem pg_callS {r : Value} (S : CallFix p m c cc nL s args Ts own) (hM : pg_ro l y ws rm' B As (some r)) (hst : pg_st B) (hB : pg_h B s H)
    (cw : CallB R s args own index y bytes maxL ret ws rm' 0 0 n ∧ (Cond.static y).before args s = true) (hn : As.length = n) (hsize : ls.size = nL) (hstack : st = As.reverse ++ rest) (hW : (rest.map fun v => v.category).sum ≤ 8)
    (hdg : decode cc pc = .ok (.invokestatic index, 3)) (hf : cells ≤ R.cells ∧ slots ≤ R.slots)
    (kk : W p l e R s m args below meth c H locs cells slots Q (F0 m (pc + 3) ls (r :: rest))) : W p l e R s m args below meth c H locs cells slots Q (F0 m pc ls st) :=
  pg_after (W.runS (rest := rest) (g := F0 m pc ls st) S hM cw ⟨pg_blind hst As, fun U hU hW => ⟨rfl, hB U hU hW⟩⟩ rfl hn hsize hstack (lv_room hW) hdg hf) kk
theorem pg_callSv (S : CallFix p m c cc nL s args Ts own) (hM : pg_ro l y ws rm' B As none) (hst : pg_st B) (hB : pg_h B s H)
    (cw : CallB R s args own index y bytes maxL ret ws rm' 0 0 n ∧ (Cond.static y).before args s = true) (hn : As.length = n) (hsize : ls.size = nL) (hstack : st = As.reverse ++ rest) (hW : (rest.map fun v => v.category).sum ≤ 8)
    (hdg : decode cc pc = .ok (.invokestatic index, 3)) (hf : cells ≤ R.cells ∧ slots ≤ R.slots)
    (kk : W p l e R s m args below meth c H locs cells slots Q (F0 m (pc + 3) ls rest)) : W p l e R s m args below meth c H locs cells slots Q (F0 m pc ls st) :=
  pg_after (W.runS (rest := rest) (g := F0 m pc ls st) S hM cw ⟨pg_blind hst As, fun U hU hW => ⟨rfl, hB U hU hW⟩⟩ rfl hn hsize hstack (lv_room hW) hdg hf) kk
theorem pg_callV {r : Value} (S : CallFix p m c cc nL s args Ts own) (hM : pg_ro l y ws rm' B (.ref b :: As) (some r)) (hst : pg_st B) (hB : pg_h B s H)
    (cw : CallW R s args own C index y bytes maxL ret ws rm' 0 0 n) (hrecv : ∃ cell : Cell, H[b]? = some cell ∧ cell.vm.isStatics = false ∧ s.vm.findClass C = some cell.cls) (hn : As.length = n) (hsize : ls.size = nL) (hstack : st = As.reverse ++ .ref b :: rest) (hW : (rest.map fun v => v.category).sum ≤ 8)
    (hdg : decode cc pc = .ok (.invokevirtual index, 3)) (hf : cells ≤ R.cells ∧ slots ≤ R.slots)
    (kk : W p l e R s m args below meth c H locs cells slots Q (F0 m (pc + 3) ls (r :: rest))) : W p l e R s m args below meth c H locs cells slots Q (F0 m pc ls st) :=
  pg_after (As := .ref b :: As) (W.runV (rest := rest) (g := F0 m pc ls st) S hM cw ⟨pg_blind hst _, hrecv, fun U hU hW => ⟨rfl, hB U hU hW⟩⟩ rfl hn hsize hstack (lv_room hW) hdg hf) kk
theorem pg_callVv (S : CallFix p m c cc nL s args Ts own) (hM : pg_ro l y ws rm' B (.ref b :: As) none) (hst : pg_st B) (hB : pg_h B s H)
    (cw : CallW R s args own C index y bytes maxL ret ws rm' 0 0 n) (hrecv : ∃ cell : Cell, H[b]? = some cell ∧ cell.vm.isStatics = false ∧ s.vm.findClass C = some cell.cls) (hn : As.length = n) (hsize : ls.size = nL) (hstack : st = As.reverse ++ .ref b :: rest) (hW : (rest.map fun v => v.category).sum ≤ 8)
    (hdg : decode cc pc = .ok (.invokevirtual index, 3)) (hf : cells ≤ R.cells ∧ slots ≤ R.slots)
    (kk : W p l e R s m args below meth c H locs cells slots Q (F0 m (pc + 3) ls rest)) : W p l e R s m args below meth c H locs cells slots Q (F0 m pc ls st) :=
  pg_after (As := .ref b :: As) (W.runV (rest := rest) (g := F0 m pc ls st) S hM cw ⟨pg_blind hst _, hrecv, fun U hU hW => ⟨rfl, hB U hU hW⟩⟩ rfl hn hsize hstack (lv_room hW) hdg hf) kk
/-! the ends of a method that writes nothing -/
theorem pg_iret {r : Option Value} {v : Int32} (hx : p.tables.exec = Jvm.exec) (hb : c.code = cc) (hr : meth.sig.returnType = some .int) (hlk : meth.locks = false) (hv : r = some (.int v)) (hdg : decode cc pc = .ok (.ireturn, 1)) : W p l e R s m args below meth c s.heap [] 0 0 (MQ below (pg_Q r) args s 0 0 (fun _ => False)) (F0 m pc ls [.int v]) := by
  subst hv
  exact W.iret hx hb hr (fun t ht _ => ⟨rfl, ht⟩) (fun q h => nomatch h) hdg hlk
theorem pg_zret {r : Option Value} {v : Int32} (hx : p.tables.exec = Jvm.exec) (hb : c.code = cc) (hr : meth.sig.returnType = some .boolean) (hlk : meth.locks = false) (hn : narrow .boolean (.int v) = .int v) (hv : r = some (.int v)) (hdg : decode cc pc = .ok (.ireturn, 1)) : W p l e R s m args below meth c s.heap [] 0 0 (MQ below (pg_Q r) args s 0 0 (fun _ => False)) (F0 m pc ls [.int v]) := by
  subst hv
  exact W.zret hx hb hr hn (fun t ht _ => ⟨rfl, ht⟩) (fun q h => nomatch h) hdg hlk
theorem pg_lret {r : Option Value} {v : Int64} (hx : p.tables.exec = Jvm.exec) (hb : c.code = cc) (hr : meth.sig.returnType = some .long) (hlk : meth.locks = false) (hv : r = some (.long v)) (hdg : decode cc pc = .ok (.lreturn, 1)) : W p l e R s m args below meth c s.heap [] 0 0 (MQ below (pg_Q r) args s 0 0 (fun _ => False)) (F0 m pc ls [.long v]) := by
  subst hv
  exact W.lret hx hb hr (fun t ht _ => ⟨rfl, ht⟩) (fun q h => nomatch h) hdg hlk
theorem pg_dret {r : Option Value} {v : UInt64} (hx : p.tables.exec = Jvm.exec) (hb : c.code = cc) (hr : meth.sig.returnType = some .double) (hlk : meth.locks = false) (hv : r = some (.double v)) (hdg : decode cc pc = .ok (.dreturn, 1)) : W p l e R s m args below meth c s.heap [] 0 0 (MQ below (pg_Q r) args s 0 0 (fun _ => False)) (F0 m pc ls [.double v]) := by
  subst hv
  exact W.dret hx hb hr (fun t ht _ => ⟨rfl, ht⟩) (fun q h => nomatch h) hdg hlk
theorem pg_vret {r : Option Value} (hx : p.tables.exec = Jvm.exec) (hb : c.code = cc) (hr : meth.sig.returnType = none) (hlk : meth.locks = false) (hv : r = none) (hdg : decode cc pc = .ok (.return_, 1)) : W p l e R s m args below meth c s.heap [] 0 0 (MQ below (pg_Q r) args s 0 0 (fun _ => False)) (F0 m pc ls []) := by
  subst hv
  exact W.vret hx hb hr (fun t ht _ => ⟨rfl, ht⟩) (fun q h => nomatch h) hdg hlk
/-! methods that throw -/
theorem pg_th_of {av : List Value} {E : String} (hy : plainName y.cls = true) (hw : ws = Cond.code y cc maxL ret :: ws') (hlen : (lg_sl av).length ≤ maxL)
    (body : ∀ (p : Program) (e : Env) (s : State) (m : MethodId) (below : List Frame) (meth : Method) (c : Code) (ls : Array Slot), CallFix p m c cc maxL s av.toArray ws y.cls → (∀ x ∈ c.exceptionTable.toList, False) → meth.locks = false → B s → lv_has ls maxL (lv_args 0 av) →
      W p l e rm' s m av.toArray below meth c s.heap [] 0 0 (vx_MQ below (fun _ _ _ _ => False) (pg_XC E) av.toArray s 1 6 (fun _ => False)) (F0 m 0 ls [])) : pg_th l y ws rm' B av E := by
  refine vx_ofW (cc := cc) (maxL := maxL) (ret := ret) hy hw ?_
  intro p e s m args below meth c s₁ Bd hml hT hv
  obtain ⟨rfl, hB⟩ := hv
  have hts := atoms_spec (ws := ws) Bd.pre
  have hown : s.vm.findClass y.cls = some m.cls := findClass_of_methodNamed Bd.named
  have hl := lv_entry av (n := maxL) hlen
  rw [lg_entry_eq]
  exact body p e s m below meth c _ ⟨Bd.exec, Bd.bytes, hml, hown, hts⟩ hT Bd.notSynchronized hB hl
theorem pg_throwing {E : String} {a : Array Value} (hr : vx_Run p l e R s m args below meth c H locs cells slots 1 6 (F0 m pc ls st) rest ((fun _ _ _ _ => False : Array Value → State → Outcome → State → Prop) a) (pg_XC E) (fun _ => False))
    (kk : ∀ (H1 : Heap) (q : Addr) (ce : Cell), H.size ≤ H1.size → (∀ x : Nat, x < H.size → H1[x]? = H[x]?) → H1[q]? = some ce → ce.vm = .none → s.vm.findClass E = some ce.cls → vx_W p l e R s m args below meth c H1 locs (cells + 1) (slots + 6) Q (F0 m pc ls rest) q) :
    W p l e R s m args below meth c H locs cells slots Q (F0 m pc ls st) := by
  intro T hT X
  rcases hr T hT X with ⟨v, st₀, t, T', L, h0, X', hL, e1, e2, hq, _⟩ | ⟨q, st₀, t, T', L, E', ce, h0, X', hL, e1, e2, ⟨rfl, hz, hk⟩, hce, hv, hcl, hst⟩
  · exact hq.elim
  · subst h0
    obtain ⟨t2, a1, b1⟩ := kk t.heap q ce hz hk hce hv hcl T' e1 (Stand.forget X' (fun q h => (hL q h).elim))
    exact ⟨t2, hst.trans a1, b1⟩
theorem pg_out {E : String} {ce : Cell} {q : Addr} {H1 : Heap} (hT : ∀ x ∈ c.exceptionTable.toList, False) (hlk : meth.locks = false) (hz : s.heap.size ≤ H1.size) (hk : ∀ x : Nat, x < s.heap.size → H1[x]? = s.heap[x]?) (hce : H1[q]? = some ce) (hv : ce.vm = .none) (hcl : s.vm.findClass E = some ce.cls) :
    vx_W p l e R s m args below meth c H1 [] (0 + 1) (0 + 6) (vx_MQ below (fun _ _ _ _ => False) (pg_XC E) args s 1 6 (fun _ => False)) (F0 m pc ls rest) q :=
  vx_out (fun x h => (hT x h).elim) hlk hce hv hcl (fun t ht _ => ⟨rfl, by rw [ht]; exact hz, fun x hx => by rw [ht]; exact hk x hx⟩) (fun z h => nomatch h) (Nat.le_refl _) (Nat.le_refl _)
theorem pg_thS {E : String} (S : CallFix p m c cc nL s args Ts own) (hM : pg_th l y ws rm' B As E) (hst : pg_st B) (hB : pg_h B s s.heap)
    (cw : CallB R s args own index y bytes maxL ret ws rm' 1 6 n ∧ (Cond.static y).before args s = true) (hT : ∀ x ∈ c.exceptionTable.toList, False) (hlk : meth.locks = false) (hn : As.length = n) (hsize : ls.size = nL) (hstack : st = As.reverse ++ rest) (hW : (rest.map fun v => v.category).sum ≤ 8)
    (hdg : decode cc pc = .ok (.invokestatic index, 3)) (hf : 0 + 1 ≤ R.cells ∧ 0 + 6 ≤ R.slots) :
    W p l e R s m args below meth c s.heap [] 0 0 (vx_MQ below (fun _ _ _ _ => False) (pg_XC E) args s 1 6 (fun _ => False)) (F0 m pc ls st) :=
  pg_throwing (a := As.toArray) (vx_runS (rest := rest) (g := F0 m pc ls st) S hM cw ⟨pg_blind hst As, fun U hU hW => ⟨rfl, hB U hU hW⟩⟩ rfl hn hsize hstack (lv_room hW) hdg hf) (fun H1 q ce h1 h2 h3 h4 h5 => pg_out hT hlk h1 h2 h3 h4 h5)
theorem pg_thV {E : String} (S : CallFix p m c cc nL s args Ts own) (hM : pg_th l y ws rm' B (.ref b :: As) E) (hst : pg_st B) (hB : pg_h B s s.heap)
    (cw : CallW R s args own C index y bytes maxL ret ws rm' 1 6 n) (hrecv : ∃ cell : Cell, s.heap[b]? = some cell ∧ cell.vm.isStatics = false ∧ s.vm.findClass C = some cell.cls) (hT : ∀ x ∈ c.exceptionTable.toList, False) (hlk : meth.locks = false) (hn : As.length = n) (hsize : ls.size = nL) (hstack : st = As.reverse ++ .ref b :: rest) (hW : (rest.map fun v => v.category).sum ≤ 8)
    (hdg : decode cc pc = .ok (.invokevirtual index, 3)) (hf : 0 + 1 ≤ R.cells ∧ 0 + 6 ≤ R.slots) :
    W p l e R s m args below meth c s.heap [] 0 0 (vx_MQ below (fun _ _ _ _ => False) (pg_XC E) args s 1 6 (fun _ => False)) (F0 m pc ls st) :=
  pg_throwing (a := (Value.ref b :: As).toArray) (vx_runV (rest := rest) (g := F0 m pc ls st) S hM cw ⟨pg_blind hst _, hrecv, fun U hU hW => ⟨rfl, hB U hU hW⟩⟩ rfl hn hsize hstack (lv_room hW) hdg hf) (fun H1 q ce h1 h2 h3 h4 h5 => pg_out hT hlk h1 h2 h3 h4 h5)
end PGB
end
section
/-! ===== the layer, second part: cells of a list that change, in the middle of a longer list ===== -/
section PGC
theorem pg_Pm {D : va_G} {cl : List vw_C} {ws : va_W} {H : Heap} : va_P D cl ws H ↔ ∀ q ∈ ws, va_at D cl q H :=
  ⟨fun h q hq => by obtain ⟨i, hi⟩ := List.getElem?_of_mem hq; exact h i q hi, fun h k q hk => h q (List.mem_of_getElem? hk)⟩
theorem pg_D_of {w : va_W} {A : Nat → Prop} (h : va_D A w) : va_D (pg_in w) w := ⟨h.1, fun k q hk => ⟨k, q.2, hk⟩⟩
theorem pg_map {w w' : va_W} (e : w'.map Prod.fst = w.map Prod.fst) (k : Nat) (q : Nat × va_E) (hk : w'[k]? = some q) : ∃ q0, w[k]? = some q0 ∧ q0.1 = q.1 := by
  have h1 : (w'.map Prod.fst)[k]? = some q.1 := by rw [List.getElem?_map, hk]; rfl
  rw [e, List.getElem?_map] at h1
  cases hw : w[k]? with
  | none => rw [hw] at h1; cases h1
  | some q0 => rw [hw] at h1; exact ⟨q0, rfl, Option.some.inj h1⟩
theorem pg_D_map {A : Nat → Prop} {w w' : va_W} (h : va_D A w) (e : w'.map Prod.fst = w.map Prod.fst) : va_D A w' := by
  refine ⟨fun i j p q hi hj hpq => ?_, fun k q hk => ?_⟩
  · obtain ⟨p0, a1, a2⟩ := pg_map e i p hi
    obtain ⟨q0, b1, b2⟩ := pg_map e j q hj
    exact h.1 i j p0 q0 a1 b1 (by rw [a2, b2, hpq])
  · obtain ⟨q0, a1, a2⟩ := pg_map e k q hk
    rw [← a2]; exact h.2 k q0 a1
theorem pg_mid {l1 w l2 : va_W} {k : Nat} {q : Nat × va_E} (hk : w[k]? = some q) : (l1 ++ (w ++ l2))[l1.length + k]? = some q := by
  have hlt : k < w.length := (List.getElem?_eq_some_iff.mp hk).1
  rw [List.getElem?_append_right (Nat.le_add_right _ _), Nat.add_sub_cancel_left, List.getElem?_append_left hlt]
  exact hk
theorem pg_notin {A : Nat → Prop} {l1 w l2 : va_W} (hD : va_D A (l1 ++ (w ++ l2))) {q : Nat × va_E} (hq : q ∈ l1 ∨ q ∈ l2) : ¬ pg_in w q.1 := by
  rintro ⟨k, e, hk⟩
  have hlt : k < w.length := (List.getElem?_eq_some_iff.mp hk).1
  have hm := pg_mid (l1 := l1) (l2 := l2) hk
  rcases hq with hq | hq
  · obtain ⟨i, hi⟩ := List.getElem?_of_mem hq
    have hi1 : i < l1.length := (List.getElem?_eq_some_iff.mp hi).1
    have h1 : (l1 ++ (w ++ l2))[i]? = some q := by rw [List.getElem?_append_left hi1]; exact hi
    have := hD.1 i (l1.length + k) q (q.1, e) h1 hm rfl
    omega
  · obtain ⟨i, hi⟩ := List.getElem?_of_mem hq
    have h1 : (l1 ++ (w ++ l2))[l1.length + (w.length + i)]? = some q := by
      rw [List.getElem?_append_right (Nat.le_add_right _ _), Nat.add_sub_cancel_left, List.getElem?_append_right (Nat.le_add_right _ _), Nat.add_sub_cancel_left]
      exact hi
    have := hD.1 _ (l1.length + k) q (q.1, e) h1 hm rfl
    omega
theorem pg_join {A : Nat → Prop} {D : va_G} {cl : List vw_C} {l1 w w' l2 : va_W} {H H1 : Heap} (hP : va_P D cl (l1 ++ (w ++ l2)) H) (hD : va_D A (l1 ++ (w ++ l2))) (hP1 : va_P D cl w' H1)
    (hk : ∀ q : Nat, q < H.size → ¬ pg_in w q → H1[q]? = H[q]?) : va_P D cl (l1 ++ (w' ++ l2)) H1 := by
  rw [pg_Pm] at hP hP1 ⊢
  intro q hq
  rcases List.mem_append.mp hq with h | h
  · have h0 := hP q (List.mem_append_left _ h)
    exact h0.kept (hk _ h0.lt (pg_notin hD (Or.inl h)))
  · rcases List.mem_append.mp h with h | h
    · exact hP1 q h
    · have h0 := hP q (List.mem_append_right _ (List.mem_append_right _ h))
      exact h0.kept (hk _ h0.lt (pg_notin hD (Or.inr h)))
theorem pg_part {D : va_G} {cl : List vw_C} {l1 w l2 : va_W} {H : Heap} (hP : va_P D cl (l1 ++ (w ++ l2)) H) : va_P D cl w H := fun _ _ hk => hP _ _ (pg_mid hk)
theorem pg_Dpart {A : Nat → Prop} {l1 w l2 : va_W} (hD : va_D A (l1 ++ (w ++ l2))) : va_D A w :=
  ⟨fun i j p q hi hj h => by have := hD.1 _ _ p q (pg_mid (l1 := l1) (l2 := l2) hi) (pg_mid (l1 := l1) (l2 := l2) hj) h; omega, fun k q hk => hD.2 _ q (pg_mid (l1 := l1) (l2 := l2) hk)⟩
theorem pg_mape {l1 w w' l2 : va_W} (e : w'.map Prod.fst = w.map Prod.fst) : (l1 ++ (w' ++ l2)).map Prod.fst = (l1 ++ (w ++ l2)).map Prod.fst := by
  simp only [List.map_append, e]
theorem pg_S {A P : Nat → Prop} {H0 H H1 : Heap} {locs L : List Loc} (h : va_S A H0 H locs) (hz : H.size ≤ H1.size) (hk : ∀ q : Nat, q < H.size → ¬ P q → H1[q]? = H[q]?) (hPA : ∀ q, P q → A q) (hL : ∀ z ∈ L, P z.base) : va_S A H0 H1 (locs ++ L) :=
  ⟨Nat.le_trans h.1 hz, fun q h1 h2 => by rw [hk q (Nat.lt_of_lt_of_le h1 h.1) (fun z => h2 (hPA q z))]; exact h.2.1 q h1 h2, fun z hz => (List.mem_append.mp hz).elim (h.2.2 z) (fun h3 => hPA _ (hL z h3))⟩
theorem pg_inA {A : Nat → Prop} {l1 w l2 : va_W} (hD : va_D A (l1 ++ (w ++ l2))) (q : Nat) (h : pg_in w q) : A q := by
  obtain ⟨k, e, hk⟩ := h
  exact hD.2 _ (q, e) (pg_mid (l1 := l1) (l2 := l2) hk)
theorem pg_W_st {G : va_G} {tys : List (ClassId × FieldType)} {w : va_W} : pg_st (pg_W G tys w) :=
  ⟨fun u U hh hv h => ⟨by rw [hh]; exact h.1, va_K.moved (by rw [hv]; exact Vm.Alike.refl _) h.2.1, h.2.2⟩, fun u U hh hW h => ⟨by rw [hh]; exact h.1, va_K.moved hW.alike h.2.1, h.2.2⟩⟩
theorem pg_and_st {B1 B2 : State → Prop} (h1 : pg_st B1) (h2 : pg_st B2) : pg_st (fun U => B1 U ∧ B2 U) :=
  ⟨fun u U hh hv h => ⟨h1.1 u U hh hv h.1, h2.1 u U hh hv h.2⟩, fun u U hh hW h => ⟨h1.2 u U hh hW h.1, h2.2 u U hh hW h.2⟩⟩
theorem pg_W_h {G : va_G} {tys : List (ClassId × FieldType)} {A : Nat → Prop} {w : va_W} {s : State} {H : Heap} (hP : va_P G vwCl w H) (hK : va_K G vwCl tys s) (hD : va_D A w) : pg_h (pg_W G tys w) s H :=
  fun U hU hW => ⟨by rw [hU]; exact hP, va_K.moved hW.alike hK, hD.weaken (fun _ _ _ _ => trivial)⟩
end PGC
section PGD
variable {p : Program} {l : Launch} {e : Env} {R : Room} {s : State} {m : MethodId} {args : Array Value} {below : List Frame} {meth : Method} {c : Code} {H : Heap} {locs : List Loc} {cells slots : Nat} {Q : State → Prop}
variable {Ts ws ws' : List Cond} {cc bytes : ByteArray} {nL maxL index n : Nat} {own C : String} {y : MethodName} {ret : Option FieldType} {rm' : Room} {B : State → Prop} {b : Addr} {As rest st : List Value} {ls : Array Slot} {pc : Nat}
variable {G : va_G} {tys tyc : List (ClassId × FieldType)} {w w' l1 l2 : va_W} {mc ms : Nat} {A : Nat → Prop}
theorem pg_wr_of {av : List Value} {r : Option Value} (hy : plainName y.cls = true) (hw : ws = Cond.code y cc maxL ret :: ws') (hlen : (lg_sl av).length ≤ maxL)
    (body : ∀ (p : Program) (e : Env) (s : State) (m : MethodId) (below : List Frame) (meth : Method) (c : Code) (ls : Array Slot), CallFix p m c cc maxL s av.toArray ws y.cls → meth.sig.returnType = ret → meth.locks = false → va_P G vwCl w s.heap → va_K G vwCl tys s → va_D (pg_in w) w → va_S (pg_in w) s.heap s.heap [] → B s → lv_has ls maxL (lv_args 0 av) →
      W p l e rm' s m av.toArray below meth c s.heap [] 0 0 (MQ below (pg_Qw G w w' r) av.toArray s mc ms (pg_in w)) (F0 m 0 ls [])) : pg_wr l y ws rm' G tys B w w' mc ms av r := by
  refine Met.ofW (cc := cc) (maxL := maxL) (ret := ret) hy hw ?_
  intro p e s m args below meth c s₁ Bd hml hv
  obtain ⟨rfl, ⟨hP, hK, hD⟩, hB⟩ := hv
  have hts := atoms_spec (ws := ws) Bd.pre
  have hown : s.vm.findClass y.cls = some m.cls := findClass_of_methodNamed Bd.named
  have hl := lv_entry av (n := maxL) hlen
  rw [lg_entry_eq]
  exact body p e s m below meth c _ ⟨Bd.exec, Bd.bytes, hml, hown, hts⟩ Bd.returns Bd.notSynchronized hP hK (pg_D_of hD) va_S.rf hB hl
theorem pg_wafter {r : Option Value} {a : Array Value} (hr : CallRun p l e R s m args below meth c H locs cells slots mc ms (F0 m pc ls st) rest (pg_Qw G w w' r a) (pg_in w)) (hP : va_P G vwCl (l1 ++ (w ++ l2)) H) (hD : va_D A (l1 ++ (w ++ l2))) (hS : va_S A s.heap H locs) (he : w'.map Prod.fst = w.map Prod.fst)
    (kk : ∀ (H1 : Heap) (locs1 : List Loc), va_P G vwCl (l1 ++ (w' ++ l2)) H1 → va_D A (l1 ++ (w' ++ l2)) → va_S A s.heap H1 locs1 → W p l e R s m args below meth c H1 locs1 (cells + mc) (slots + ms) Q (F0 m (pc + 3) ls (r.toList ++ rest))) : W p l e R s m args below meth c H locs cells slots Q (F0 m pc ls st) := by
  intro T hT X
  obtain ⟨v, st₀, t, T', L, h0, X', hL, e1, ⟨hv, hP1, hF⟩, sg⟩ := hr T hT X
  cases hv
  subst h0
  obtain ⟨t2, a1, b1⟩ := kk t.heap (locs ++ L) (pg_join hP hD hP1 hF.2) (pg_D_map hD (pg_mape he)) (pg_S hS hF.1 hF.2 (pg_inA hD) hL) T' e1 X'
  exact ⟨t2, sg t2 a1, b1⟩
theorem pg_wcallV {r : Value} (S : CallFix p m c cc nL s args Ts own) (hM : pg_wr l y ws rm' G tyc B w w' mc ms (.ref b :: As) (some r)) (hst : pg_st B) (hB : pg_h B s H)
    (cw : CallW R s args own C index y bytes maxL ret ws rm' mc ms n) (hrecv : ∃ cell : Cell, H[b]? = some cell ∧ cell.vm.isStatics = false ∧ s.vm.findClass C = some cell.cls) (hK : va_K G vwCl tyc s) (hP : va_P G vwCl (l1 ++ (w ++ l2)) H) (hD : va_D A (l1 ++ (w ++ l2))) (hS : va_S A s.heap H locs) (he : w'.map Prod.fst = w.map Prod.fst)
    (hn : As.length = n) (hsize : ls.size = nL) (hstack : st = As.reverse ++ .ref b :: rest) (hW : (rest.map fun v => v.category).sum ≤ 8) (hdg : decode cc pc = .ok (.invokevirtual index, 3)) (hf : cells + mc ≤ R.cells ∧ slots + ms ≤ R.slots)
    (kk : ∀ (H1 : Heap) (locs1 : List Loc), va_P G vwCl (l1 ++ (w' ++ l2)) H1 → va_D A (l1 ++ (w' ++ l2)) → va_S A s.heap H1 locs1 → W p l e R s m args below meth c H1 locs1 (cells + mc) (slots + ms) Q (F0 m (pc + 3) ls (r :: rest))) : W p l e R s m args below meth c H locs cells slots Q (F0 m pc ls st) :=
  pg_wafter (W.runV (rest := rest) (g := F0 m pc ls st) S hM cw ⟨pg_blind (pg_and_st pg_W_st hst) _, hrecv, fun U hU hW => ⟨rfl, pg_W_h (pg_part hP) hK (pg_Dpart hD) U hU hW, hB U hU hW⟩⟩ rfl hn hsize hstack (lv_room hW) hdg hf) hP hD hS he kk
theorem pg_wcallVv (S : CallFix p m c cc nL s args Ts own) (hM : pg_wr l y ws rm' G tyc B w w' mc ms (.ref b :: As) none) (hst : pg_st B) (hB : pg_h B s H)
    (cw : CallW R s args own C index y bytes maxL ret ws rm' mc ms n) (hrecv : ∃ cell : Cell, H[b]? = some cell ∧ cell.vm.isStatics = false ∧ s.vm.findClass C = some cell.cls) (hK : va_K G vwCl tyc s) (hP : va_P G vwCl (l1 ++ (w ++ l2)) H) (hD : va_D A (l1 ++ (w ++ l2))) (hS : va_S A s.heap H locs) (he : w'.map Prod.fst = w.map Prod.fst)
    (hn : As.length = n) (hsize : ls.size = nL) (hstack : st = As.reverse ++ .ref b :: rest) (hW : (rest.map fun v => v.category).sum ≤ 8) (hdg : decode cc pc = .ok (.invokevirtual index, 3)) (hf : cells + mc ≤ R.cells ∧ slots + ms ≤ R.slots)
    (kk : ∀ (H1 : Heap) (locs1 : List Loc), va_P G vwCl (l1 ++ (w' ++ l2)) H1 → va_D A (l1 ++ (w' ++ l2)) → va_S A s.heap H1 locs1 → W p l e R s m args below meth c H1 locs1 (cells + mc) (slots + ms) Q (F0 m (pc + 3) ls rest)) : W p l e R s m args below meth c H locs cells slots Q (F0 m pc ls st) :=
  pg_wafter (W.runV (rest := rest) (g := F0 m pc ls st) S hM cw ⟨pg_blind (pg_and_st pg_W_st hst) _, hrecv, fun U hU hW => ⟨rfl, pg_W_h (pg_part hP) hK (pg_Dpart hD) U hU hW, hB U hU hW⟩⟩ rfl hn hsize hstack (lv_room hW) hdg hf) hP hD hS he kk
/-! the ends of a method that writes -/
theorem pg_wiret {r : Option Value} {v : Int32} (hx : p.tables.exec = Jvm.exec) (hb : c.code = cc) (hr : meth.sig.returnType = some .int) (hlk : meth.locks = false) (hP : va_P G vwCl w' H) (hS : va_S (pg_in w) s.heap H locs) (hv : r = some (.int v)) (hdg : decode cc pc = .ok (.ireturn, 1)) : W p l e R s m args below meth c H locs cells slots (MQ below (pg_Qw G w w' r) args s cells slots (pg_in w)) (F0 m pc ls [.int v]) := by
  subst hv
  exact W.iret hx hb hr (fun t ht _ => ⟨rfl, by rw [ht]; exact hP, hS.F ht⟩) hS.2.2 hdg hlk
theorem pg_wzret {r : Option Value} {v : Int32} (hx : p.tables.exec = Jvm.exec) (hb : c.code = cc) (hr : meth.sig.returnType = some .boolean) (hlk : meth.locks = false) (hP : va_P G vwCl w' H) (hS : va_S (pg_in w) s.heap H locs) (hn : narrow .boolean (.int v) = .int v) (hv : r = some (.int v)) (hdg : decode cc pc = .ok (.ireturn, 1)) : W p l e R s m args below meth c H locs cells slots (MQ below (pg_Qw G w w' r) args s cells slots (pg_in w)) (F0 m pc ls [.int v]) := by
  subst hv
  exact W.zret hx hb hr hn (fun t ht _ => ⟨rfl, by rw [ht]; exact hP, hS.F ht⟩) hS.2.2 hdg hlk
theorem pg_wlret {r : Option Value} {v : Int64} (hx : p.tables.exec = Jvm.exec) (hb : c.code = cc) (hr : meth.sig.returnType = some .long) (hlk : meth.locks = false) (hP : va_P G vwCl w' H) (hS : va_S (pg_in w) s.heap H locs) (hv : r = some (.long v)) (hdg : decode cc pc = .ok (.lreturn, 1)) : W p l e R s m args below meth c H locs cells slots (MQ below (pg_Qw G w w' r) args s cells slots (pg_in w)) (F0 m pc ls [.long v]) := by
  subst hv
  exact W.lret hx hb hr (fun t ht _ => ⟨rfl, by rw [ht]; exact hP, hS.F ht⟩) hS.2.2 hdg hlk
theorem pg_wdret {r : Option Value} {v : UInt64} (hx : p.tables.exec = Jvm.exec) (hb : c.code = cc) (hr : meth.sig.returnType = some .double) (hlk : meth.locks = false) (hP : va_P G vwCl w' H) (hS : va_S (pg_in w) s.heap H locs) (hv : r = some (.double v)) (hdg : decode cc pc = .ok (.dreturn, 1)) : W p l e R s m args below meth c H locs cells slots (MQ below (pg_Qw G w w' r) args s cells slots (pg_in w)) (F0 m pc ls [.double v]) := by
  subst hv
  exact W.dret hx hb hr (fun t ht _ => ⟨rfl, by rw [ht]; exact hP, hS.F ht⟩) hS.2.2 hdg hlk
theorem pg_wvret {r : Option Value} (hx : p.tables.exec = Jvm.exec) (hb : c.code = cc) (hr : meth.sig.returnType = none) (hlk : meth.locks = false) (hP : va_P G vwCl w' H) (hS : va_S (pg_in w) s.heap H locs) (hv : r = none) (hdg : decode cc pc = .ok (.return_, 1)) : W p l e R s m args below meth c H locs cells slots (MQ below (pg_Qw G w w' r) args s cells slots (pg_in w)) (F0 m pc ls []) := by
  subst hv
  exact W.vret hx hb hr (fun t ht _ => ⟨rfl, by rw [ht]; exact hP, hS.F ht⟩) hS.2.2 hdg hlk
end PGD
end
section
/-! ===== rows over whole numbers: an int is iI z, a long lI z, z an Int ===== -/
section PGI
def iI (z : Int) : Int32 := Int32.ofInt z
def lI (z : Int) : Int64 := Int64.ofInt z
abbrev inI (z : Int) : Prop := -2147483648 ≤ z ∧ z < 2147483648
abbrev inL (z : Int) : Prop := -9223372036854775808 ≤ z ∧ z < 9223372036854775808
theorem iI_toInt {z : Int} (h : inI z) : (iI z).toInt = z := Int32.toInt_ofInt_of_le (by obtain ⟨a, b⟩ := h; omega) (by obtain ⟨a, b⟩ := h; omega)
theorem lI_toInt {z : Int} (h : inL z) : (lI z).toInt = z := Int64.toInt_ofInt_of_le (by obtain ⟨a, b⟩ := h; omega) (by obtain ⟨a, b⟩ := h; omega)
theorem inL_nat {q : Nat} (h : q < 2 ^ 63) : inL (q : Int) := ⟨by omega, by omega⟩
theorem inI_nat {q : Nat} (h : q < 2 ^ 31) : inI (q : Int) := ⟨by omega, by omega⟩
theorem iI_self (x : Int32) : x = iI x.toInt := (Int32.ofInt_toInt x).symm
theorem inI_self (x : Int32) : inI x.toInt := ⟨by have := Int32.le_toInt x; omega, by have := Int32.toInt_lt x; omega⟩
theorem iI_le {a b : Int} (ha : inI a) (hb : inI b) : iI a ≤ iI b ↔ a ≤ b := by rw [Int32.le_iff_toInt_le, iI_toInt ha, iI_toInt hb]
theorem iI_lt {a b : Int} (ha : inI a) (hb : inI b) : iI a < iI b ↔ a < b := by rw [Int32.lt_iff_toInt_lt, iI_toInt ha, iI_toInt hb]
theorem iI_eq {a b : Int} (ha : inI a) (hb : inI b) : iI a = iI b ↔ a = b := by rw [← Int32.toInt_inj, iI_toInt ha, iI_toInt hb]
theorem lI_lt {a b : Int} (ha : inL a) (hb : inL b) : lI a < lI b ↔ a < b := by rw [Int64.lt_iff_toInt_lt, lI_toInt ha, lI_toInt hb]
theorem lI_eq {a b : Int} (ha : inL a) (hb : inL b) : lI a = lI b ↔ a = b := by rw [← Int64.toInt_inj, lI_toInt ha, lI_toInt hb]
theorem iI_n (n : Nat) : iI (n : Int) = nI n := by apply Int32.toBitVec_inj.mp; show BitVec.ofInt 32 n = BitVec.ofNat 32 n; simp
theorem lI_bv (n : Nat) : (lI (n : Int)).toBitVec = BitVec.ofNat 64 n := by show (Int64.ofInt n).toBitVec = _; simp
theorem lI_sh (k : Nat) (hk : k < 64) : ((iI (k : Int)).toInt64 &&& 63).toBitVec.smod 64 = BitVec.ofNat 64 k := by
  have h : ∀ k : Nat, k < 64 → ((iI (k : Int)).toInt64 &&& 63).toBitVec.smod 64 = BitVec.ofNat 64 k := by decide +kernel
  exact h k hk
theorem lI_shu (k : Nat) (hk : k < 64) : ((iI (k : Int)).toInt64.toUInt64 &&& Int64.toUInt64 63).toBitVec % 64 = BitVec.ofNat 64 k := by
  have h : ∀ k : Nat, k < 64 → ((iI (k : Int)).toInt64.toUInt64 &&& Int64.toUInt64 63).toBitVec % 64 = BitVec.ofNat 64 k := by decide +kernel
  exact h k hk
theorem lI_shl (n k : Nat) (hk : k < 64) : lI (n : Int) <<< ((iI (k : Int)).toInt64 &&& 63) = lI ((n * 2 ^ k : Nat) : Int) := by
  apply Int64.toBitVec_inj.mp
  rw [Int64.toBitVec_shiftLeft, lI_sh k hk, lI_bv, lI_bv]
  apply BitVec.eq_of_toNat_eq
  rw [BitVec.shiftLeft_eq', BitVec.toNat_shiftLeft, BitVec.toNat_ofNat, BitVec.toNat_ofNat, BitVec.toNat_ofNat, Nat.mod_eq_of_lt (show k < 2 ^ 64 by omega), Nat.shiftLeft_eq, Nat.mod_mul_mod]
theorem lI_shr (n k : Nat) (hn : n < 2 ^ 63) (hk : k < 64) : lI (n : Int) >>> ((iI (k : Int)).toInt64 &&& 63) = lI ((n / 2 ^ k : Nat) : Int) := by
  apply Int64.toInt_inj.mp
  have h1 : n / 2 ^ k ≤ n := Nat.div_le_self _ _
  rw [lI_toInt (inL_nat (Nat.lt_of_le_of_lt h1 hn))]
  show ((lI (n : Int)) >>> ((iI (k : Int)).toInt64 &&& 63)).toBitVec.toInt = _
  rw [Int64.toBitVec_shiftRight, lI_sh k hk, BitVec.sshiftRight_eq', BitVec.toInt_sshiftRight, BitVec.toNat_ofNat, Nat.mod_eq_of_lt (show k < 2 ^ 64 by omega)]
  have e : (lI (n : Int)).toBitVec.toInt = (n : Int) := lI_toInt ⟨by omega, by omega⟩
  rw [e, Int.shiftRight_eq_div_pow]
  simp
theorem lI_ushr (n k : Nat) (hn : n < 2 ^ 63) (hk : k < 64) : ((lI (n : Int)).toUInt64 >>> ((iI (k : Int)).toInt64.toUInt64 &&& Int64.toUInt64 63)).toInt64 = lI ((n / 2 ^ k : Nat) : Int) := by
  apply Int64.toBitVec_inj.mp
  rw [UInt64.toBitVec_toInt64, UInt64.toBitVec_shiftRight, lI_shu k hk, Int64.toBitVec_toUInt64, lI_bv, lI_bv]
  apply BitVec.eq_of_toNat_eq
  have h1 : n / 2 ^ k ≤ n := Nat.div_le_self _ _
  rw [BitVec.ushiftRight_eq', BitVec.toNat_ushiftRight, BitVec.toNat_ofNat, BitVec.toNat_ofNat, BitVec.toNat_ofNat, Nat.mod_eq_of_lt (show k < 2 ^ 64 by omega), Nat.shiftRight_eq_div_pow, Nat.mod_eq_of_lt (show n < 2 ^ 64 by omega), Nat.mod_eq_of_lt (Nat.lt_of_le_of_lt h1 (show n < 2 ^ 64 by omega))]
theorem lI_mask (n k : Nat) (hn : n < 2 ^ 64) (hk : k < 64) : lI (n : Int) &&& lI ((2 ^ k - 1 : Nat) : Int) = lI ((n % 2 ^ k : Nat) : Int) := by
  apply Int64.toBitVec_inj.mp
  rw [Int64.toBitVec_and, lI_bv, lI_bv, lI_bv]
  apply BitVec.eq_of_toNat_eq
  have h1 : n % 2 ^ k ≤ n := Nat.mod_le _ _
  have h2 : 2 ^ k ≤ 2 ^ 63 := Nat.pow_le_pow_right (by decide) (by omega)
  rw [BitVec.toNat_and, BitVec.toNat_ofNat, BitVec.toNat_ofNat, BitVec.toNat_ofNat, Nat.mod_eq_of_lt hn, Nat.mod_eq_of_lt (show 2 ^ k - 1 < 2 ^ 64 by omega), Nat.mod_eq_of_lt (show n % 2 ^ k < 2 ^ 64 by omega), Nat.and_two_pow_sub_one_eq_mod]
theorem lI_or (n k : Nat) (hn : n < 2 ^ k) (hk : k < 63) : lI (n : Int) ||| lI ((2 ^ k : Nat) : Int) = lI ((2 ^ k + n : Nat) : Int) := by
  apply Int64.toBitVec_inj.mp
  rw [Int64.toBitVec_or, lI_bv, lI_bv, lI_bv]
  apply BitVec.eq_of_toNat_eq
  have h2 : 2 ^ k ≤ 2 ^ 62 := Nat.pow_le_pow_right (by decide) (by omega)
  have h3 := Nat.two_pow_add_eq_or_of_lt hn 1
  rw [BitVec.toNat_or, BitVec.toNat_ofNat, BitVec.toNat_ofNat, BitVec.toNat_ofNat, Nat.mod_eq_of_lt (show n < 2 ^ 64 by omega), Nat.mod_eq_of_lt (show 2 ^ k < 2 ^ 64 by omega), Nat.mod_eq_of_lt (show 2 ^ k + n < 2 ^ 64 by omega), Nat.or_comm]
  rw [Nat.mul_one] at h3
  exact h3.symm
theorem iI_shr (n k : Nat) (hn : n < 2 ^ 31) (hk : k < 32) : iI (n : Int) >>> (iI (k : Int) &&& 31) = iI ((n / 2 ^ k : Nat) : Int) := by
  have hs : ∀ k : Nat, k < 32 → ((iI (k : Int) &&& 31).toBitVec.smod 32) = BitVec.ofNat 32 k := by decide +kernel
  apply Int32.toInt_inj.mp
  have h1 : n / 2 ^ k ≤ n := Nat.div_le_self _ _
  rw [iI_toInt (inI_nat (Nat.lt_of_le_of_lt h1 hn))]
  show ((iI (n : Int)) >>> (iI (k : Int) &&& 31)).toBitVec.toInt = _
  rw [Int32.toBitVec_shiftRight, hs k hk, BitVec.sshiftRight_eq', BitVec.toInt_sshiftRight, BitVec.toNat_ofNat, Nat.mod_eq_of_lt (show k < 2 ^ 32 by omega)]
  have e : (iI (n : Int)).toBitVec.toInt = (n : Int) := iI_toInt ⟨by omega, by omega⟩
  rw [e, Int.shiftRight_eq_div_pow]
  simp
theorem iI_and (a b : Nat) (ha : a < 2 ^ 31) (hb : b < 2 ^ 31) : iI (a : Int) &&& iI (b : Int) = iI ((a &&& b : Nat) : Int) := by
  apply Int32.toBitVec_inj.mp
  have e : ∀ n : Nat, (iI (n : Int)).toBitVec = BitVec.ofNat 32 n := fun n => by show (Int32.ofInt n).toBitVec = _; simp
  have h : a &&& b ≤ a := Nat.and_le_left
  rw [Int32.toBitVec_and, e, e, e]
  apply BitVec.eq_of_toNat_eq
  rw [BitVec.toNat_and, BitVec.toNat_ofNat, BitVec.toNat_ofNat, BitVec.toNat_ofNat, Nat.mod_eq_of_lt (show a < 2 ^ 32 by omega), Nat.mod_eq_of_lt (show b < 2 ^ 32 by omega), Nat.mod_eq_of_lt (show a &&& b < 2 ^ 32 by omega)]
theorem iI_l {z : Int} (h : inI z) : (iI z).toInt64 = lI z := by
  apply Int64.toInt_inj.mp
  obtain ⟨h1, h2⟩ := h
  rw [Int32.toInt_toInt64, iI_toInt ⟨h1, h2⟩, lI_toInt ⟨by omega, by omega⟩]
theorem lI_i (z : Int) : (lI z).toInt32 = iI z := Int64.toInt32_ofInt
theorem iI_bool {z : Int} (h : z = 0 ∨ z = 1) : narrow .boolean (.int (iI z)) = .int (iI z) := by
  rcases h with rfl | rfl <;> decide +kernel
def upN (f : Nat → Nat) (k v : Nat) : Nat → Nat := fun j => if j = k then v else f j
abbrev fI (f : Nat → Nat) : Nat → Int32 := fun i => iI (f i : Int)
theorem upd_fI (f : Nat → Nat) (k v : Nat) : upd (fI f) k (iI (v : Int)) = fI (upN f k v) := by
  funext j
  unfold upd fI upN
  by_cases h : j = k <;> simp [h]
theorem iI_clamp {n : Nat} (h : n < 2 ^ 31) : (iI (n : Int)).toNatClampNeg = n := by rw [iI_n]; exact nI_clamp h
theorem iI_in {n N : Nat} (h : n < N) (hN : N < 2 ^ 31) : vp_in (iI (n : Int)) N := by rw [iI_n]; exact vp_in_nI h hN
end PGI
section PGR
variable {p : Program} {l : Launch} {e : Env} {R : Room} {s : State} {m : MethodId} {args : Array Value} {below : List Frame} {meth : Method} {c : Code} {H : Heap} {locs : List Loc} {cells slots : Nat} {Q : State → Prop}
variable {cc : ByteArray} {pc : Nat} {ls : Array Slot} {rest : List Value}
theorem pg_ti {x y : Int32} (h : x = y) (k : W p l e R s m args below meth c H locs cells slots Q (F0 m pc ls (.int y :: rest))) : W p l e R s m args below meth c H locs cells slots Q (F0 m pc ls (.int x :: rest)) := h ▸ k
theorem pg_tl {x y : Int64} (h : x = y) (k : W p l e R s m args below meth c H locs cells slots Q (F0 m pc ls (.long y :: rest))) : W p l e R s m args below meth c H locs cells slots Q (F0 m pc ls (.long x :: rest)) := h ▸ k
theorem pg_iadd (hx : p.tables.exec = Jvm.exec) (hb : c.code = cc) {a b z : Int} (hdg : decode cc pc = .ok (.iadd, 1)) (hz : a + b = z) (k : W p l e R s m args below meth c H locs cells slots Q (F0 m (pc + 1) ls (.int (iI z) :: rest))) : W p l e R s m args below meth c H locs cells slots Q (F0 m pc ls (.int (iI b) :: .int (iI a) :: rest)) :=
  lv_iadd hx hb hdg (pg_ti (by subst hz; exact (Int32.ofInt_add a b).symm) k)
theorem pg_isub (hx : p.tables.exec = Jvm.exec) (hb : c.code = cc) {a b z : Int} (hdg : decode cc pc = .ok (.isub, 1)) (hz : a - b = z) (k : W p l e R s m args below meth c H locs cells slots Q (F0 m (pc + 1) ls (.int (iI z) :: rest))) : W p l e R s m args below meth c H locs cells slots Q (F0 m pc ls (.int (iI b) :: .int (iI a) :: rest)) :=
  lv_isub hx hb hdg (pg_ti (by subst hz; exact (Int32.ofInt_sub a b).symm) k)
theorem pg_imul (hx : p.tables.exec = Jvm.exec) (hb : c.code = cc) {a b z : Int} (hdg : decode cc pc = .ok (.imul, 1)) (hz : a * b = z) (k : W p l e R s m args below meth c H locs cells slots Q (F0 m (pc + 1) ls (.int (iI z) :: rest))) : W p l e R s m args below meth c H locs cells slots Q (F0 m pc ls (.int (iI b) :: .int (iI a) :: rest)) :=
  lv_imul hx hb hdg (pg_ti (by subst hz; exact (Int32.ofInt_mul a b).symm) k)
theorem pg_ineg (hx : p.tables.exec = Jvm.exec) (hb : c.code = cc) {a z : Int} (hdg : decode cc pc = .ok (.ineg, 1)) (hz : -a = z) (k : W p l e R s m args below meth c H locs cells slots Q (F0 m (pc + 1) ls (.int (iI z) :: rest))) : W p l e R s m args below meth c H locs cells slots Q (F0 m pc ls (.int (iI a) :: rest)) :=
  lv_ineg hx hb hdg (pg_ti (by subst hz; exact (Int32.ofInt_neg a).symm) k)
theorem pg_iand (hx : p.tables.exec = Jvm.exec) (hb : c.code = cc) {a b z : Nat} {x y : Int} (hdg : decode cc pc = .ok (.iand, 1)) (hxa : x = a) (hyb : y = b) (ha : a < 2 ^ 31) (hb' : b < 2 ^ 31) (hz : a &&& b = z) (k : W p l e R s m args below meth c H locs cells slots Q (F0 m (pc + 1) ls (.int (iI z) :: rest))) : W p l e R s m args below meth c H locs cells slots Q (F0 m pc ls (.int (iI y) :: .int (iI x) :: rest)) :=
  lv_iand hx hb hdg (pg_ti (by subst hz; subst hxa; subst hyb; exact iI_and a b ha hb') k)
theorem pg_ishr (hx : p.tables.exec = Jvm.exec) (hb : c.code = cc) {n j z : Nat} {x y : Int} (hdg : decode cc pc = .ok (.ishr, 1)) (hxa : x = n) (hyb : y = j) (hn : n < 2 ^ 31) (hj : j < 32) (hz : n / 2 ^ j = z) (k : W p l e R s m args below meth c H locs cells slots Q (F0 m (pc + 1) ls (.int (iI z) :: rest))) : W p l e R s m args below meth c H locs cells slots Q (F0 m pc ls (.int (iI y) :: .int (iI x) :: rest)) :=
  lv_ishr hx hb hdg (pg_ti (by subst hz; subst hxa; subst hyb; exact iI_shr n j hn hj) k)
theorem pg_ladd (hx : p.tables.exec = Jvm.exec) (hb : c.code = cc) {a b z : Int} (hdg : decode cc pc = .ok (.ladd, 1)) (hz : a + b = z) (k : W p l e R s m args below meth c H locs cells slots Q (F0 m (pc + 1) ls (.long (lI z) :: rest))) : W p l e R s m args below meth c H locs cells slots Q (F0 m pc ls (.long (lI b) :: .long (lI a) :: rest)) :=
  lv_ladd hx hb hdg (pg_tl (by subst hz; exact (Int64.ofInt_add a b).symm) k)
theorem pg_lsub (hx : p.tables.exec = Jvm.exec) (hb : c.code = cc) {a b z : Int} (hdg : decode cc pc = .ok (.lsub, 1)) (hz : a - b = z) (k : W p l e R s m args below meth c H locs cells slots Q (F0 m (pc + 1) ls (.long (lI z) :: rest))) : W p l e R s m args below meth c H locs cells slots Q (F0 m pc ls (.long (lI b) :: .long (lI a) :: rest)) :=
  lv_lsub hx hb hdg (pg_tl (by subst hz; exact (Int64.ofInt_sub a b).symm) k)
theorem pg_lmul (hx : p.tables.exec = Jvm.exec) (hb : c.code = cc) {a b z : Int} (hdg : decode cc pc = .ok (.lmul, 1)) (hz : a * b = z) (k : W p l e R s m args below meth c H locs cells slots Q (F0 m (pc + 1) ls (.long (lI z) :: rest))) : W p l e R s m args below meth c H locs cells slots Q (F0 m pc ls (.long (lI b) :: .long (lI a) :: rest)) :=
  lv_lmul hx hb hdg (pg_tl (by subst hz; exact (Int64.ofInt_mul a b).symm) k)
theorem lI_div (a b : Nat) (ha : a < 2 ^ 63) (hb : b < 2 ^ 63) (h0 : 0 < b) : lI (a : Int) / lI (b : Int) = lI ((a / b : Nat) : Int) := by
  apply Int64.toInt_inj.mp
  have h1 : a / b ≤ a := Nat.div_le_self _ _
  have hne : lI (b : Int) ≠ -1 := by
    intro h
    have := congrArg Int64.toInt h
    rw [lI_toInt ⟨by omega, by omega⟩, show (-1 : Int64).toInt = -1 from rfl] at this
    omega
  rw [Int64.toInt_div_of_ne_right _ _ hne, lI_toInt (inL_nat ha), lI_toInt (inL_nat hb), lI_toInt (inL_nat (Nat.lt_of_le_of_lt h1 ha))]
  rw [Int.tdiv_eq_ediv_of_nonneg (by omega)]
  simp
theorem iI_div (a b : Nat) (ha : a < 2 ^ 31) (hb : b < 2 ^ 31) (h0 : 0 < b) : iI (a : Int) / iI (b : Int) = iI ((a / b : Nat) : Int) := by
  rw [iI_n, iI_n, iI_n]; exact pk_div ha h0 hb
theorem pg_ldiv (hx : p.tables.exec = Jvm.exec) (hb : c.code = cc) {a b z : Nat} {x y : Int} (hdg : decode cc pc = .ok (.ldiv, 1)) (hxa : x = a) (hyb : y = b) (ha : a < 2 ^ 63) (hb' : b < 2 ^ 63) (h0 : 0 < b) (hz : a / b = z) (k : W p l e R s m args below meth c H locs cells slots Q (F0 m (pc + 1) ls (.long (lI z) :: rest))) : W p l e R s m args below meth c H locs cells slots Q (F0 m pc ls (.long (lI y) :: .long (lI x) :: rest)) := by
  subst hz; subst hxa; subst hyb
  exact lv_ldiv hx hb hdg (fun h => by
    have := congrArg Int64.toInt h
    rw [lI_toInt ⟨by omega, by omega⟩, show (0 : Int64).toInt = 0 from rfl] at this
    omega) (pg_tl (lI_div a b ha hb' h0) k)
theorem pg_idiv (hx : p.tables.exec = Jvm.exec) (hb : c.code = cc) {a b z : Nat} {x y : Int} (hdg : decode cc pc = .ok (.idiv, 1)) (hxa : x = a) (hyb : y = b) (ha : a < 2 ^ 31) (hb' : b < 2 ^ 31) (h0 : 0 < b) (hz : a / b = z) (k : W p l e R s m args below meth c H locs cells slots Q (F0 m (pc + 1) ls (.int (iI z) :: rest))) : W p l e R s m args below meth c H locs cells slots Q (F0 m pc ls (.int (iI y) :: .int (iI x) :: rest)) := by
  subst hz; subst hxa; subst hyb
  exact lv_idiv hx hb hdg (fun h => by
    have := congrArg Int32.toInt h
    rw [iI_toInt ⟨by omega, by omega⟩, show (0 : Int32).toInt = 0 from rfl] at this
    omega) (pg_ti (iI_div a b ha hb' h0) k)
theorem pg_lshl (hx : p.tables.exec = Jvm.exec) (hb : c.code = cc) {n j z : Nat} {x y : Int} (hdg : decode cc pc = .ok (.lshl, 1)) (hxa : x = n) (hyb : y = j) (hj : j < 64) (hz : n * 2 ^ j = z) (k : W p l e R s m args below meth c H locs cells slots Q (F0 m (pc + 1) ls (.long (lI z) :: rest))) : W p l e R s m args below meth c H locs cells slots Q (F0 m pc ls (.int (iI y) :: .long (lI x) :: rest)) := by
  subst hz; subst hxa; subst hyb
  exact lv_lshl hx hb hdg (lI_shl n j hj) k
theorem pg_lshr (hx : p.tables.exec = Jvm.exec) (hb : c.code = cc) {n j z : Nat} {x y : Int} (hdg : decode cc pc = .ok (.lshr, 1)) (hxa : x = n) (hyb : y = j) (hn : n < 2 ^ 63) (hj : j < 64) (hz : n / 2 ^ j = z) (k : W p l e R s m args below meth c H locs cells slots Q (F0 m (pc + 1) ls (.long (lI z) :: rest))) : W p l e R s m args below meth c H locs cells slots Q (F0 m pc ls (.int (iI y) :: .long (lI x) :: rest)) := by
  subst hz; subst hxa; subst hyb
  exact lv_lshr hx hb hdg (lI_shr n j hn hj) k
theorem pg_lushr (hx : p.tables.exec = Jvm.exec) (hb : c.code = cc) {n j z : Nat} {x y : Int} (hdg : decode cc pc = .ok (.lushr, 1)) (hxa : x = n) (hyb : y = j) (hn : n < 2 ^ 63) (hj : j < 64) (hz : n / 2 ^ j = z) (k : W p l e R s m args below meth c H locs cells slots Q (F0 m (pc + 1) ls (.long (lI z) :: rest))) : W p l e R s m args below meth c H locs cells slots Q (F0 m pc ls (.int (iI y) :: .long (lI x) :: rest)) := by
  subst hz; subst hxa; subst hyb
  exact lv_lushr hx hb hdg (lI_ushr n j hn hj) k
theorem pg_lmask (hx : p.tables.exec = Jvm.exec) (hb : c.code = cc) {n j z : Nat} {x y : Int} (hdg : decode cc pc = .ok (.land, 1)) (hxa : x = n) (hyb : y = ((2 ^ j - 1 : Nat) : Int)) (hn : n < 2 ^ 64) (hj : j < 64) (hz : n % 2 ^ j = z) (k : W p l e R s m args below meth c H locs cells slots Q (F0 m (pc + 1) ls (.long (lI z) :: rest))) : W p l e R s m args below meth c H locs cells slots Q (F0 m pc ls (.long (lI y) :: .long (lI x) :: rest)) := by
  subst hz; subst hxa; subst hyb
  exact lv_land hx hb hdg (pg_tl (lI_mask n j hn hj) k)
theorem pg_lorp (hx : p.tables.exec = Jvm.exec) (hb : c.code = cc) {n j z : Nat} {x y : Int} (hdg : decode cc pc = .ok (.lor, 1)) (hxa : x = n) (hyb : y = ((2 ^ j : Nat) : Int)) (hn : n < 2 ^ j) (hj : j < 63) (hz : 2 ^ j + n = z) (k : W p l e R s m args below meth c H locs cells slots Q (F0 m (pc + 1) ls (.long (lI z) :: rest))) : W p l e R s m args below meth c H locs cells slots Q (F0 m pc ls (.long (lI y) :: .long (lI x) :: rest)) := by
  subst hz; subst hxa; subst hyb
  exact lv_lor hx hb hdg (pg_tl (lI_or n j hn hj) k)
theorem pg_i2l (hx : p.tables.exec = Jvm.exec) (hb : c.code = cc) {z : Int} (hdg : decode cc pc = .ok (.i2l, 1)) (hz : inI z) (k : W p l e R s m args below meth c H locs cells slots Q (F0 m (pc + 1) ls (.long (lI z) :: rest))) : W p l e R s m args below meth c H locs cells slots Q (F0 m pc ls (.int (iI z) :: rest)) :=
  lv_i2l hx hb hdg (iI_l hz) k
theorem pg_l2i (hx : p.tables.exec = Jvm.exec) (hb : c.code = cc) {z : Int} (hdg : decode cc pc = .ok (.l2i, 1)) (k : W p l e R s m args below meth c H locs cells slots Q (F0 m (pc + 1) ls (.int (iI z) :: rest))) : W p l e R s m args below meth c H locs cells slots Q (F0 m pc ls (.long (lI z) :: rest)) :=
  lv_l2i hx hb hdg (lI_i z) k
theorem pg_lcmp (hx : p.tables.exec = Jvm.exec) (hb : c.code = cc) {a b : Int} (hdg : decode cc pc = .ok (.lcmp, 1)) (ha : inL a) (hb' : inL b) (k : ∀ z : Int, (a < b ∧ z = -1) ∨ (a = b ∧ z = 0) ∨ (b < a ∧ z = 1) → W p l e R s m args below meth c H locs cells slots Q (F0 m (pc + 1) ls (.int (iI z) :: rest))) : W p l e R s m args below meth c H locs cells slots Q (F0 m pc ls (.long (lI b) :: .long (lI a) :: rest)) := by
  refine W.lcmp hx hb hdg ?_
  have e : lg_cmp (lI a) (lI b) = iI (if b < a then 1 else if a = b then 0 else -1) := by
    unfold lg_cmp
    simp only [gt_iff_lt, lI_lt hb' ha, lI_eq ha hb']
    split
    · rfl
    · split <;> rfl
  rw [e]
  refine k _ ?_
  split
  · exact Or.inr (Or.inr ⟨by assumption, rfl⟩)
  · split
    · exact Or.inr (Or.inl ⟨by assumption, rfl⟩)
    · exact Or.inl ⟨by omega, rfl⟩
theorem iI_addp {a b z : Int} (h : a + b = z) : iI a + iI b = iI z := by subst h; exact (Int32.ofInt_add a b).symm
theorem in0 : inI 0 := ⟨by decide, by decide⟩
theorem pg_icmp_eq (hx : p.tables.exec = Jvm.exec) (hb : c.code = cc) {a b : Int} {off : Int} {tgt : Nat} (hdg : decode cc pc = .ok (.if_icmp .eq off, 3)) (ht : (pc : Int) + off = (tgt : Int)) (ha : inI a) (hb' : inI b) (kt : a = b → W p l e R s m args below meth c H locs cells slots Q (F0 m tgt ls rest)) (kf : a ≠ b → W p l e R s m args below meth c H locs cells slots Q (F0 m (pc + 3) ls rest)) : W p l e R s m args below meth c H locs cells slots Q (F0 m pc ls (.int (iI b) :: .int (iI a) :: rest)) :=
  lv_icmp_eq hx hb hdg ht (fun h => kt ((iI_eq ha hb').mp h)) (fun h => kf (fun q => h ((iI_eq ha hb').mpr q)))
theorem pg_icmp_ne (hx : p.tables.exec = Jvm.exec) (hb : c.code = cc) {a b : Int} {off : Int} {tgt : Nat} (hdg : decode cc pc = .ok (.if_icmp .ne off, 3)) (ht : (pc : Int) + off = (tgt : Int)) (ha : inI a) (hb' : inI b) (kt : a ≠ b → W p l e R s m args below meth c H locs cells slots Q (F0 m tgt ls rest)) (kf : a = b → W p l e R s m args below meth c H locs cells slots Q (F0 m (pc + 3) ls rest)) : W p l e R s m args below meth c H locs cells slots Q (F0 m pc ls (.int (iI b) :: .int (iI a) :: rest)) :=
  lv_icmp_ne hx hb hdg ht (fun h => kt (fun q => h ((iI_eq ha hb').mpr q))) (fun h => kf ((iI_eq ha hb').mp h))
theorem pg_icmp_lt (hx : p.tables.exec = Jvm.exec) (hb : c.code = cc) {a b : Int} {off : Int} {tgt : Nat} (hdg : decode cc pc = .ok (.if_icmp .lt off, 3)) (ht : (pc : Int) + off = (tgt : Int)) (ha : inI a) (hb' : inI b) (kt : a < b → W p l e R s m args below meth c H locs cells slots Q (F0 m tgt ls rest)) (kf : b ≤ a → W p l e R s m args below meth c H locs cells slots Q (F0 m (pc + 3) ls rest)) : W p l e R s m args below meth c H locs cells slots Q (F0 m pc ls (.int (iI b) :: .int (iI a) :: rest)) :=
  lv_icmp_lt hx hb hdg ht (fun h => kt ((iI_lt ha hb').mp h)) (fun h => kf (Int.le_of_not_gt (fun q => h ((iI_lt ha hb').mpr q))))
theorem pg_icmp_ge (hx : p.tables.exec = Jvm.exec) (hb : c.code = cc) {a b : Int} {off : Int} {tgt : Nat} (hdg : decode cc pc = .ok (.if_icmp .ge off, 3)) (ht : (pc : Int) + off = (tgt : Int)) (ha : inI a) (hb' : inI b) (kt : b ≤ a → W p l e R s m args below meth c H locs cells slots Q (F0 m tgt ls rest)) (kf : a < b → W p l e R s m args below meth c H locs cells slots Q (F0 m (pc + 3) ls rest)) : W p l e R s m args below meth c H locs cells slots Q (F0 m pc ls (.int (iI b) :: .int (iI a) :: rest)) :=
  lv_icmp_ge hx hb hdg ht (fun h => kt ((iI_le hb' ha).mp h)) (fun h => kf (Int.lt_of_not_ge (fun q => h ((iI_le hb' ha).mpr q))))
theorem pg_icmp_gt (hx : p.tables.exec = Jvm.exec) (hb : c.code = cc) {a b : Int} {off : Int} {tgt : Nat} (hdg : decode cc pc = .ok (.if_icmp .gt off, 3)) (ht : (pc : Int) + off = (tgt : Int)) (ha : inI a) (hb' : inI b) (kt : b < a → W p l e R s m args below meth c H locs cells slots Q (F0 m tgt ls rest)) (kf : a ≤ b → W p l e R s m args below meth c H locs cells slots Q (F0 m (pc + 3) ls rest)) : W p l e R s m args below meth c H locs cells slots Q (F0 m pc ls (.int (iI b) :: .int (iI a) :: rest)) :=
  lv_icmp_gt hx hb hdg ht (fun h => kt ((iI_lt hb' ha).mp h)) (fun h => kf (Int.le_of_not_gt (fun q => h ((iI_lt hb' ha).mpr q))))
theorem pg_icmp_le (hx : p.tables.exec = Jvm.exec) (hb : c.code = cc) {a b : Int} {off : Int} {tgt : Nat} (hdg : decode cc pc = .ok (.if_icmp .le off, 3)) (ht : (pc : Int) + off = (tgt : Int)) (ha : inI a) (hb' : inI b) (kt : a ≤ b → W p l e R s m args below meth c H locs cells slots Q (F0 m tgt ls rest)) (kf : b < a → W p l e R s m args below meth c H locs cells slots Q (F0 m (pc + 3) ls rest)) : W p l e R s m args below meth c H locs cells slots Q (F0 m pc ls (.int (iI b) :: .int (iI a) :: rest)) :=
  lv_icmp_le hx hb hdg ht (fun h => kt ((iI_le ha hb').mp h)) (fun h => kf (Int.lt_of_not_ge (fun q => h ((iI_le ha hb').mpr q))))
theorem pg_if_eq (hx : p.tables.exec = Jvm.exec) (hb : c.code = cc) {a : Int} {off : Int} {tgt : Nat} (hdg : decode cc pc = .ok (.ifCond .eq off, 3)) (ht : (pc : Int) + off = (tgt : Int)) (ha : inI a) (kt : a = 0 → W p l e R s m args below meth c H locs cells slots Q (F0 m tgt ls rest)) (kf : a ≠ 0 → W p l e R s m args below meth c H locs cells slots Q (F0 m (pc + 3) ls rest)) : W p l e R s m args below meth c H locs cells slots Q (F0 m pc ls (.int (iI a) :: rest)) := by
  have hb' := in0
  exact lv_if_eq hx hb hdg ht (fun h => kt ((iI_eq ha hb').mp h)) (fun h => kf (fun q => h ((iI_eq ha hb').mpr q)))
theorem pg_if_ne (hx : p.tables.exec = Jvm.exec) (hb : c.code = cc) {a : Int} {off : Int} {tgt : Nat} (hdg : decode cc pc = .ok (.ifCond .ne off, 3)) (ht : (pc : Int) + off = (tgt : Int)) (ha : inI a) (kt : a ≠ 0 → W p l e R s m args below meth c H locs cells slots Q (F0 m tgt ls rest)) (kf : a = 0 → W p l e R s m args below meth c H locs cells slots Q (F0 m (pc + 3) ls rest)) : W p l e R s m args below meth c H locs cells slots Q (F0 m pc ls (.int (iI a) :: rest)) := by
  have hb' := in0
  exact lv_if_ne hx hb hdg ht (fun h => kt (fun q => h ((iI_eq ha hb').mpr q))) (fun h => kf ((iI_eq ha hb').mp h))
theorem pg_if_lt (hx : p.tables.exec = Jvm.exec) (hb : c.code = cc) {a : Int} {off : Int} {tgt : Nat} (hdg : decode cc pc = .ok (.ifCond .lt off, 3)) (ht : (pc : Int) + off = (tgt : Int)) (ha : inI a) (kt : a < 0 → W p l e R s m args below meth c H locs cells slots Q (F0 m tgt ls rest)) (kf : 0 ≤ a → W p l e R s m args below meth c H locs cells slots Q (F0 m (pc + 3) ls rest)) : W p l e R s m args below meth c H locs cells slots Q (F0 m pc ls (.int (iI a) :: rest)) := by
  have hb' := in0
  exact lv_if_lt hx hb hdg ht (fun h => kt ((iI_lt ha hb').mp h)) (fun h => kf (Int.le_of_not_gt (fun q => h ((iI_lt ha hb').mpr q))))
theorem pg_if_ge (hx : p.tables.exec = Jvm.exec) (hb : c.code = cc) {a : Int} {off : Int} {tgt : Nat} (hdg : decode cc pc = .ok (.ifCond .ge off, 3)) (ht : (pc : Int) + off = (tgt : Int)) (ha : inI a) (kt : 0 ≤ a → W p l e R s m args below meth c H locs cells slots Q (F0 m tgt ls rest)) (kf : a < 0 → W p l e R s m args below meth c H locs cells slots Q (F0 m (pc + 3) ls rest)) : W p l e R s m args below meth c H locs cells slots Q (F0 m pc ls (.int (iI a) :: rest)) := by
  have hb' := in0
  exact lv_if_ge hx hb hdg ht (fun h => kt ((iI_le hb' ha).mp h)) (fun h => kf (Int.lt_of_not_ge (fun q => h ((iI_le hb' ha).mpr q))))
theorem pg_if_gt (hx : p.tables.exec = Jvm.exec) (hb : c.code = cc) {a : Int} {off : Int} {tgt : Nat} (hdg : decode cc pc = .ok (.ifCond .gt off, 3)) (ht : (pc : Int) + off = (tgt : Int)) (ha : inI a) (kt : 0 < a → W p l e R s m args below meth c H locs cells slots Q (F0 m tgt ls rest)) (kf : a ≤ 0 → W p l e R s m args below meth c H locs cells slots Q (F0 m (pc + 3) ls rest)) : W p l e R s m args below meth c H locs cells slots Q (F0 m pc ls (.int (iI a) :: rest)) := by
  have hb' := in0
  exact lv_if_gt hx hb hdg ht (fun h => kt ((iI_lt hb' ha).mp h)) (fun h => kf (Int.le_of_not_gt (fun q => h ((iI_lt hb' ha).mpr q))))
theorem pg_if_le (hx : p.tables.exec = Jvm.exec) (hb : c.code = cc) {a : Int} {off : Int} {tgt : Nat} (hdg : decode cc pc = .ok (.ifCond .le off, 3)) (ht : (pc : Int) + off = (tgt : Int)) (ha : inI a) (kt : a ≤ 0 → W p l e R s m args below meth c H locs cells slots Q (F0 m tgt ls rest)) (kf : 0 < a → W p l e R s m args below meth c H locs cells slots Q (F0 m (pc + 3) ls rest)) : W p l e R s m args below meth c H locs cells slots Q (F0 m pc ls (.int (iI a) :: rest)) := by
  have hb' := in0
  exact lv_if_le hx hb hdg ht (fun h => kt ((iI_le ha hb').mp h)) (fun h => kf (Int.lt_of_not_ge (fun q => h ((iI_le ha hb').mpr q))))
section
variable {D : va_G} {cl : List vw_C} {tys : List (ClassId × FieldType)} {ws : va_W} {a : Nat} {A : Nat → Prop} {H0 : Heap}
theorem pg_iald (hx : p.tables.exec = Jvm.exec) (hb : c.code = cc) (hK : va_K D cl tys s) (hP : va_P D cl ws H) (q0 t0 : Nat) {cA : ClassId} {n : Nat} {f : Nat → Nat} (ha : ws[q0]? = some (a, .inl (cA, n, .inl (fI f)))) (ht : tys[t0]? = some (cA, .int)) {z : Int} (i : Nat) (hz : z = i) (hi : i < n) (hn : n < 2 ^ 31) (hdg : decode cc pc = .ok (.iaload, 1))
    (kk : W p l e R s m args below meth c H locs cells slots Q (F0 m (pc + 1) ls (.int (iI (f i : Int)) :: rest))) : W p l e R s m args below meth c H locs cells slots Q (F0 m pc ls (.int (iI z) :: .ref a :: rest)) := by
  subst hz
  refine va_iald hx hb hK hP q0 t0 ha ht (iI_in hi hn) hdg ?_
  rw [iI_clamp (by omega)]
  exact kk
theorem pg_zald (hx : p.tables.exec = Jvm.exec) (hb : c.code = cc) (hK : va_K D cl tys s) (hP : va_P D cl ws H) (q0 t0 : Nat) {cA : ClassId} {n : Nat} {f : Nat → Nat} (ha : ws[q0]? = some (a, .inl (cA, n, .inl (fI f)))) (ht : tys[t0]? = some (cA, .boolean)) {z : Int} (i : Nat) (hz : z = i) (hi : i < n) (hn : n < 2 ^ 31) (hdg : decode cc pc = .ok (.baload, 1))
    (kk : W p l e R s m args below meth c H locs cells slots Q (F0 m (pc + 1) ls (.int (iI (f i : Int)) :: rest))) : W p l e R s m args below meth c H locs cells slots Q (F0 m pc ls (.int (iI z) :: .ref a :: rest)) := by
  subst hz
  refine va_zald hx hb hK hP q0 t0 ha ht (iI_in hi hn) hdg ?_
  rw [iI_clamp (by omega)]
  exact kk
theorem pg_iast (hx : p.tables.exec = Jvm.exec) (hb : c.code = cc) (hK : va_K D cl tys s) (hP : va_P D cl ws H) (hD : va_D A ws) (hS : va_S A H0 H locs) (q0 t0 : Nat) {cA : ClassId} {n : Nat} {f : Nat → Nat} (ha : ws[q0]? = some (a, .inl (cA, n, .inl (fI f)))) (ht : tys[t0]? = some (cA, .int)) {z y : Int} (i v : Nat) (hz : z = i) (hy : y = v) (hi : i < n) (hn : n < 2 ^ 31) (hdg : decode cc pc = .ok (.iastore, 1))
    (kk : ∀ (H1 : Heap) (locs1 : List Loc), va_P D cl (ws.set q0 (a, .inl (cA, n, .inl (fI (upN f i v))))) H1 → va_D A (ws.set q0 (a, .inl (cA, n, .inl (fI (upN f i v))))) → va_S A H0 H1 locs1 → W p l e R s m args below meth c H1 locs1 cells slots Q (F0 m (pc + 1) ls rest)) : W p l e R s m args below meth c H locs cells slots Q (F0 m pc ls (.int (iI y) :: .int (iI z) :: .ref a :: rest)) := by
  subst hz; subst hy
  refine va_iast hx hb hK hP hD hS q0 t0 ha ht (iI_in hi hn) hdg ?_
  rw [iI_clamp (by omega), upd_fI]
  exact kk
theorem vp_nar_b {v : Nat} (h : v ≤ 1) : vp_nar .boolean (iI (v : Int)) = iI (v : Int) := by
  have h2 : ∀ v, v < 2 → vp_nar .boolean (iI ((v : Nat) : Int)) = iI (v : Int) := by decide +kernel
  exact h2 v (by omega)
theorem pg_zast (hx : p.tables.exec = Jvm.exec) (hb : c.code = cc) (hK : va_K D cl tys s) (hP : va_P D cl ws H) (hD : va_D A ws) (hS : va_S A H0 H locs) (q0 t0 : Nat) {cA : ClassId} {n : Nat} {f : Nat → Nat} (ha : ws[q0]? = some (a, .inl (cA, n, .inl (fI f)))) (ht : tys[t0]? = some (cA, .boolean)) {z y : Int} (i v : Nat) (hz : z = i) (hy : y = v) (hv : v ≤ 1) (hi : i < n) (hn : n < 2 ^ 31) (hdg : decode cc pc = .ok (.bastore, 1))
    (kk : ∀ (H1 : Heap) (locs1 : List Loc), va_P D cl (ws.set q0 (a, .inl (cA, n, .inl (fI (upN f i v))))) H1 → va_D A (ws.set q0 (a, .inl (cA, n, .inl (fI (upN f i v))))) → va_S A H0 H1 locs1 → W p l e R s m args below meth c H1 locs1 cells slots Q (F0 m (pc + 1) ls rest)) : W p l e R s m args below meth c H locs cells slots Q (F0 m pc ls (.int (iI y) :: .int (iI z) :: .ref a :: rest)) := by
  subst hz; subst hy
  refine va_zast hx hb hK hP hD hS q0 t0 ha ht (iI_in hi hn) hdg ?_
  rw [iI_clamp (by omega), vp_nar_b hv, upd_fI]
  exact kk
end
end PGR
end
section
/-! ===== the worlds: a Pegfield and a PegfieldModel over one state S = (stands, across, up, ring, size, wide) ===== -/
section PGW
abbrev pgX : Type := va_G × ClassId × ClassId × (Nat → Nat)
abbrev xG (X : pgX) : va_G := X.1
abbrev xZ (X : pgX) : ClassId := X.2.1
abbrev xI (X : pgX) : ClassId := X.2.2.1
abbrev xa (X : pgX) : Nat → Nat := X.2.2.2
abbrev pgS : Type := (Nat → Nat) × (Nat → Nat) × (Nat → Nat) × (Nat → Nat) × Nat × Nat
abbrev sS (S : pgS) : Nat → Nat := S.1
abbrev sA (S : pgS) : Nat → Nat := S.2.1
abbrev sU (S : pgS) : Nat → Nat := S.2.2.1
abbrev sR (S : pgS) : Nat → Nat := S.2.2.2.1
abbrev sN (S : pgS) : Nat := S.2.2.2.2.1
abbrev sW (S : pgS) : Nat := S.2.2.2.2.2
def pgOk (S : pgS) : Prop := (∀ i, sS S i ≤ 1) ∧ (∀ i, sA S i ≤ 90) ∧ (∀ i, sU S i ≤ 90) ∧ (∀ i, sR S i ≤ 11) ∧ sN S ≤ 12 ∧ sW S ≤ 1
abbrev aC (X : pgX) (S : pgS) : va_W := [(xa X 1, .inl (xZ X, 12, .inl (fI (sS S)))), (xa X 2, .inl (xI X, 12, .inl (fI (sA S)))), (xa X 3, .inl (xI X, 12, .inl (fI (sU S)))), (xa X 4, .inl (xI X, 12, .inl (fI (sR S))))]
abbrev xC (X : pgX) (S : pgS) : va_W := (xa X 0, .inr (0, [.ref (xa X 1), .ref (xa X 2), .ref (xa X 3), .ref (xa X 4), .int (iI (sN S : Int)), .int (iI (sW S : Int))])) :: aC X S
abbrev mC (X : pgX) (S : pgS) (t : Int) : va_W := (xa X 0, .inr (1, [.int (iI t), .ref (xa X 1), .ref (xa X 2), .ref (xa X 3), .ref (xa X 4), .int (iI (sN S : Int)), .int (iI (sW S : Int))])) :: aC X S
abbrev xTy (X : pgX) : List (ClassId × FieldType) := [(xZ X, .boolean), (xI X, .int)]
def xB (X : pgX) (S : pgS) (U : State) : Prop := va_P (xG X) vwCl (xC X S) U.heap ∧ va_K (xG X) vwCl (xTy X) U
def mB (X : pgX) (S : pgS) (t : Int) (U : State) : Prop := va_P (xG X) vwCl (mC X S t) U.heap ∧ va_K (xG X) vwCl (xTy X) U
theorem xB_st {X : pgX} {S : pgS} : pg_st (xB X S) :=
  ⟨fun u U hh hv h => ⟨by rw [hh]; exact h.1, va_K.moved (by rw [hv]; exact Vm.Alike.refl _) h.2⟩, fun u U hh hW h => ⟨by rw [hh]; exact h.1, va_K.moved hW.alike h.2⟩⟩
theorem mB_st {X : pgX} {S : pgS} {t : Int} : pg_st (mB X S t) :=
  ⟨fun u U hh hv h => ⟨by rw [hh]; exact h.1, va_K.moved (by rw [hv]; exact Vm.Alike.refl _) h.2⟩, fun u U hh hW h => ⟨by rw [hh]; exact h.1, va_K.moved hW.alike h.2⟩⟩
theorem xB_h {X : pgX} {S : pgS} {s : State} {H : Heap} (hP : va_P (xG X) vwCl (xC X S) H) (hK : va_K (xG X) vwCl (xTy X) s) : pg_h (xB X S) s H := fun U hU hW => ⟨by rw [hU]; exact hP, va_K.moved hW.alike hK⟩
theorem mB_h {X : pgX} {S : pgS} {t : Int} {s : State} {H : Heap} (hP : va_P (xG X) vwCl (mC X S t) H) (hK : va_K (xG X) vwCl (xTy X) s) : pg_h (mB X S t) s H := fun U hU hW => ⟨by rw [hU]; exact hP, va_K.moved hW.alike hK⟩
/-- what a throw needs: the texts, and the two statics of Throwable, which lie below N -/
def exK : List (Nat × String) := [(41, "no such place"), (61, "the peg stands in the ring"), (67, "no such way"), (110, "no other peg stands"), (135, "the ring is full"), (137, "the ring is empty"), (144, "no such place in the ring"), (162, "the area is too large"), (212, "no such peg"), (216, "the peg does not stand"), (219, "no such number")]
/-- the words of a throw that a list of words can't carry -/
def exBad : List Cond := [.castable "java/lang/IllegalArgumentException" "java/lang/IllegalArgumentException", .castable "java/lang/IndexOutOfBoundsException" "java/lang/IndexOutOfBoundsException", .castable "java/lang/IllegalStateException" "java/lang/IllegalStateException", .castable "java/util/NoSuchElementException" "java/util/NoSuchElementException", .declares (Bundle.initS "java/lang/RuntimeException"), .declares (Bundle.initS "java/lang/Exception"), .declares (Bundle.initS "java/lang/Throwable")]
theorem exBad_ok : ∀ w ∈ exBad, w.onTables = true ∧ w.faceAtom = true := by decide +kernel
theorem ex_moved {w : Cond} (hc : w.onTables = true) (hf : w.faceAtom = true) {a a' : Array Value} {s U : State} (hal : s.vm.Alike U.vm) (h : w.before a s = true) : w.before a' U = true := by
  have h1 := Cond.faceAtom_setVm (args := a) hal w hf h
  rw [Cond.onTables_vm (A := a) (A' := a') (U := s) (U' := U) U.vm w hc] at h1
  rwa [State.setVm_self] at h1
theorem exBad_moved {s U : State} (hal : s.vm.Alike U.vm) (h : ∀ w ∈ exBad, ∀ a : Array Value, w.before a s = true) : ∀ w ∈ exBad, ∀ a : Array Value, w.before a U = true :=
  fun w hw a => ex_moved (exBad_ok w hw).1 (exBad_ok w hw).2 hal (h w hw a)
def exB (N : Nat) (U : State) : Prop := (∀ q ∈ exK, ∃ sa, vk_R RX0 q.1 q.2 sa U) ∧ vx_Zq Bundle.tN "UNASSIGNED_STACK" Bundle.steD (fun q => N ≤ q) U U.heap ∧ vx_Zq Bundle.tN "SUPPRESSED_SENTINEL" Bundle.listD (fun q => N ≤ q) U U.heap ∧ ∀ w ∈ exBad, ∀ a : Array Value, w.before a U = true
theorem exB_st {N : Nat} : pg_st (exB N) :=
  ⟨fun u U hh hv h => ⟨fun q hq => by obtain ⟨sa, a⟩ := h.1 q hq; exact ⟨sa, vk_R.same hv a⟩, by rw [hh]; exact vx_Zq.moved (by rw [hv]; exact Vm.Alike.refl _) h.2.1, by rw [hh]; exact vx_Zq.moved (by rw [hv]; exact Vm.Alike.refl _) h.2.2.1, exBad_moved (by rw [hv]; exact Vm.Alike.refl _) h.2.2.2⟩,
   fun u U hh hW h => ⟨fun q hq => by obtain ⟨sa, a⟩ := h.1 q hq; exact ⟨sa, vk_R.warm hW a⟩, by rw [hh]; exact vx_Zq.moved hW.alike h.2.1, by rw [hh]; exact vx_Zq.moved hW.alike h.2.2.1, exBad_moved hW.alike h.2.2.2⟩⟩
theorem exB_h {N : Nat} {s : State} {H : Heap} (h : exB N s) (hk : ∀ q : Nat, q < s.heap.size → ¬ N ≤ q → H[q]? = s.heap[q]?) : pg_h (exB N) s H := fun U hU hW =>
  ⟨fun q hq => by obtain ⟨sa, a⟩ := h.1 q hq; exact ⟨sa, vk_R.warm hW a⟩, by rw [hU]; exact vx_Zq.moved hW.alike (h.2.1.kept hk), by rw [hU]; exact vx_Zq.moved hW.alike (h.2.2.1.kept hk), exBad_moved hW.alike h.2.2.2⟩
abbrev xE (N : Nat) (X : pgX) (S : pgS) : State → Prop := fun U => xB X S U ∧ exB N U
theorem xE_st {N : Nat} {X : pgX} {S : pgS} : pg_st (xE N X S) := pg_and_st xB_st exB_st
theorem ex_bad1 : ∀ w ∈ (vx_atS RX0 43 "java/lang/IllegalArgumentException" ["java/lang/RuntimeException", "java/lang/Exception"]).filter (fun w => !goodWord w), w ∈ exBad := by decide +kernel
theorem ex_bad2 : ∀ w ∈ (vx_atS RX0 146 "java/lang/IndexOutOfBoundsException" ["java/lang/RuntimeException", "java/lang/Exception"]).filter (fun w => !goodWord w), w ∈ exBad := by decide +kernel
theorem ex_bad3 : ∀ w ∈ (vx_atS RX0 63 "java/lang/IllegalStateException" ["java/lang/RuntimeException", "java/lang/Exception"]).filter (fun w => !goodWord w), w ∈ exBad := by decide +kernel
theorem ex_bad4 : ∀ w ∈ (pg_atX RX0 218 "java/util/NoSuchElementException" 13 prog_13_method_4_code "java/lang/RuntimeException" ["java/lang/Exception"]).filter (fun w => !goodWord w), w ∈ exBad := by decide +kernel
theorem nse_0 : decode prog_13_method_4_code 0 = .ok (.aload_n 0, 1) := by decide +kernel
theorem nse_1 : decode prog_13_method_4_code 1 = .ok (.aload_n 1, 1) := by decide +kernel
theorem nse_2 : decode prog_13_method_4_code 2 = .ok (.invokespecial 13, 3) := by decide +kernel
theorem nse_5 : decode prog_13_method_4_code 5 = .ok (.return_, 1) := by decide +kernel
end PGW
end
section
/-! ===== whole numbers: the root digit by digit, the double's units, the triangle ===== -/
section PURE
/-- the greatest r with r * r ≤ n -/
def qs : Nat → Nat
  | 0 => 0
  | n + 1 => if (qs n + 1) * (qs n + 1) ≤ n + 1 then qs n + 1 else qs n
theorem qs_succ (n : Nat) : qs (n + 1) = if (qs n + 1) * (qs n + 1) ≤ n + 1 then qs n + 1 else qs n := rfl
theorem sq1 (a : Nat) : (a + 1) * (a + 1) = a * a + 2 * a + 1 := by simp only [Nat.add_mul, Nat.mul_add]; omega
theorem qs_spec : ∀ n : Nat, qs n * qs n ≤ n ∧ n < (qs n + 1) * (qs n + 1)
  | 0 => ⟨Nat.le_refl 0, Nat.zero_lt_one⟩
  | n + 1 => by
    obtain ⟨h1, h2⟩ := qs_spec n
    have e := sq1 (qs n + 1)
    rw [qs_succ]
    by_cases h : (qs n + 1) * (qs n + 1) ≤ n + 1
    · rw [if_pos h]; exact ⟨h, by omega⟩
    · rw [if_neg h]; exact ⟨by omega, by omega⟩
theorem qs_le (n : Nat) : qs n * qs n ≤ n := (qs_spec n).1
theorem qs_lt (n : Nat) : n < (qs n + 1) * (qs n + 1) := (qs_spec n).2
theorem qs_uniq {n r : Nat} (h1 : r * r ≤ n) (h2 : n < (r + 1) * (r + 1)) : qs n = r := by
  obtain ⟨a, b⟩ := qs_spec n
  rcases Nat.lt_trichotomy (qs n) r with h | h | h
  · have := Nat.mul_le_mul (show qs n + 1 ≤ r from h) (show qs n + 1 ≤ r from h); omega
  · exact h
  · have := Nat.mul_le_mul (show r + 1 ≤ qs n from h) (show r + 1 ≤ qs n from h); omega
theorem qs_below {n b : Nat} (h : n < b * b) : qs n < b := by
  rcases Nat.lt_or_ge (qs n) b with q | q
  · exact q
  · have := Nat.mul_le_mul q q; have := qs_le n; omega
theorem qs_above {n a : Nat} (h : a * a ≤ n) : a ≤ qs n := by
  rcases Nat.lt_or_ge (qs n) a with q | q
  · have := Nat.mul_le_mul (show qs n + 1 ≤ a from q) (show qs n + 1 ≤ a from q); have := qs_lt n; omega
  · exact q
theorem qs_dig (V d : Nat) (hd : d < 4) : (4 * qs V + 1 ≤ 4 * (V - qs V * qs V) + d → qs (4 * V + d) = 2 * qs V + 1 ∧ 4 * V + d - (2 * qs V + 1) * (2 * qs V + 1) = 4 * (V - qs V * qs V) + d - (4 * qs V + 1)) ∧
    (¬ 4 * qs V + 1 ≤ 4 * (V - qs V * qs V) + d → qs (4 * V + d) = 2 * qs V ∧ 4 * V + d - (2 * qs V) * (2 * qs V) = 4 * (V - qs V * qs V) + d) := by
  obtain ⟨a, b⟩ := qs_spec V
  generalize qs V = q at a b ⊢
  have e1 := sq1 q
  have e2 := sq1 (2 * q)
  have e3 := sq1 (2 * q + 1)
  have e4 : (2 * q) * (2 * q) = 4 * (q * q) := by rw [Nat.mul_mul_mul_comm]
  refine ⟨fun h => ?_, fun h => ?_⟩
  · refine ⟨qs_uniq (by omega) (by omega), by omega⟩
  · refine ⟨qs_uniq (by omega) (by omega), by omega⟩
theorem vd_step (N c i : Nat) : N * 4 ^ (i + 1) / 4 ^ c = 4 * (N * 4 ^ i / 4 ^ c) + N * 4 ^ (i + 1) / 4 ^ c % 4 := by
  have e : N * 4 ^ (i + 1) / 4 ^ c / 4 = N * 4 ^ i / 4 ^ c := by
    rw [Nat.div_div_eq_div_mul, Nat.pow_succ, ← Nat.mul_assoc, Nat.mul_div_mul_right _ _ (by decide : 0 < 4)]
  omega
theorem vd_in {N c i : Nat} (h : i + 1 ≤ c) : N * 4 ^ (i + 1) / 4 ^ c = N / 4 ^ (c - (i + 1)) := by
  have e : 4 ^ c = 4 ^ (c - (i + 1)) * 4 ^ (i + 1) := by rw [← Nat.pow_add]; congr 1; omega
  rw [e, Nat.mul_div_mul_right _ _ (Nat.pow_pos (by decide))]
theorem vd_out {N c i : Nat} (h : c ≤ i) : N * 4 ^ i / 4 ^ c = N * 4 ^ (i - c) := by
  have e : 4 ^ i = 4 ^ (i - c) * 4 ^ c := by rw [← Nat.pow_add]; congr 1; omega
  rw [e, ← Nat.mul_assoc, Nat.mul_div_cancel _ (Nat.pow_pos (by decide))]
theorem vd_out4 {N c i : Nat} (h : c ≤ i) : N * 4 ^ (i + 1) / 4 ^ c % 4 = 0 := by
  rw [vd_out (by omega), show i + 1 - c = (i - c) + 1 by omega, Nat.pow_succ, ← Nat.mul_assoc, Nat.mul_mod_left]
theorem vd_0 {N c : Nat} (h : N < 4 ^ c) : N * 4 ^ 0 / 4 ^ c = 0 := by
  rw [Nat.pow_zero, Nat.mul_one]; exact Nat.div_eq_of_lt h
theorem vd_le {N c i j : Nat} (h : i ≤ j) : N * 4 ^ i / 4 ^ c ≤ N * 4 ^ j / 4 ^ c :=
  Nat.div_le_div_right (Nat.mul_le_mul_left _ (Nat.pow_le_pow_right (by decide) h))
/-- the power of two that a root begins at -/
def pw (n : Nat) : Nat := Nat.log2 n / 2
theorem p4 (k : Nat) : 4 ^ k = 2 ^ (2 * k) := by rw [Nat.pow_mul]
theorem pw_le {n : Nat} (h : n ≠ 0) : 4 ^ pw n ≤ n := by
  rw [p4]; exact (Nat.le_log2 h).mp (by unfold pw; omega)
theorem pw_lt (n : Nat) : n < 4 ^ (pw n + 1) := by
  by_cases h : n = 0
  · subst h; exact Nat.pow_pos (by decide)
  · rw [p4]; exact (Nat.log2_lt h).mp (by unfold pw; omega)
theorem pw_uniq {n p : Nat} (h1 : 4 ^ p ≤ n) (h2 : n < 4 ^ (p + 1)) : pw n = p := by
  have h0 : n ≠ 0 := by have := Nat.pow_pos (n := p) (show 0 < 4 by decide); omega
  rw [p4] at h1 h2
  have a := (Nat.le_log2 h0).mpr h1
  have b := (Nat.log2_lt h0).mpr h2
  unfold pw; omega
theorem pw_mono {a b : Nat} (ha : a ≠ 0) (h : a ≤ b) : pw a ≤ pw b := by
  have hb : b ≠ 0 := by omega
  have h1 : 2 ^ a.log2 ≤ b := Nat.le_trans (Nat.log2_self_le ha) h
  have := (Nat.le_log2 hb).mpr h1
  unfold pw; omega
theorem pw_4 {n : Nat} (h : n ≠ 0) : pw (4 * n) = pw n + 1 := by
  refine pw_uniq ?_ ?_
  · have := pw_le h; rw [Nat.pow_succ]; omega
  · have := pw_lt n; rw [Nat.pow_succ]; omega
theorem pw_16 {n : Nat} (h : n ≠ 0) : pw (16 * n) = pw n + 2 := by
  have e : 16 * n = 4 * (4 * n) := by omega
  rw [e, pw_4 (by omega), pw_4 h]
theorem pw_small {n k : Nat} (h : n < 4 ^ (k + 1)) : pw n ≤ k := by
  by_cases h0 : n = 0
  · subst h0; exact Nat.zero_le _
  · have := pw_le h0
    have h2 : 4 ^ pw n < 4 ^ (k + 1) := Nat.lt_of_le_of_lt this h
    have := (Nat.pow_lt_pow_iff_right (by decide : 1 < 4)).mp h2
    omega
/-- the units of the double nearest to the root of M sixteenths -/
def un (M : Nat) : Nat := (qs (M * 4 ^ (53 - pw M)) + 1) / 2
/-- its bits -/
def bx (M : Nat) : Nat := if M = 0 then 0 else (1021 + pw M) * 2 ^ 52 + (un M - 2 ^ 52)
theorem un_spec {M : Nat} (h0 : M ≠ 0) (h : M < 2 ^ 20) : 2 ^ 52 ≤ un M ∧ un M < 2 ^ 53 ∧ (2 * un M - 1) * (2 * un M - 1) < M * 4 ^ (53 - pw M) ∧ M * 4 ^ (53 - pw M) < (2 * un M + 1) * (2 * un M + 1) := by
  have hp : pw M ≤ 9 := pw_small (by omega)
  have h1 := pw_le h0
  have h2 := pw_lt M
  have e4 : M * 4 ^ (53 - pw M) = 4 * (M * 4 ^ (52 - pw M)) := by
    rw [show 53 - pw M = (52 - pw M) + 1 by omega, Nat.pow_succ, ← Nat.mul_assoc, Nat.mul_comm]
  have lo : (2 ^ 53) * (2 ^ 53) ≤ M * 4 ^ (53 - pw M) := by
    have := Nat.mul_le_mul_right (4 ^ (53 - pw M)) h1
    rw [← Nat.pow_add, show pw M + (53 - pw M) = 53 by omega] at this
    exact Nat.le_trans (by decide) this
  have hi : M * 4 ^ (53 - pw M) < (2 ^ 54 - 1) * (2 ^ 54 - 1) := by
    have a : M * 4 ^ (53 - pw M) ≤ (4 ^ (pw M + 1) - 1) * 4 ^ (53 - pw M) := Nat.mul_le_mul_right _ (by omega)
    rw [Nat.sub_mul, ← Nat.pow_add, show pw M + 1 + (53 - pw M) = 54 by omega, Nat.one_mul] at a
    have b : 4 ^ 44 ≤ 4 ^ (53 - pw M) := Nat.pow_le_pow_right (by decide) (by omega)
    have c : (4 : Nat) ^ 54 - 4 ^ 44 < (2 ^ 54 - 1) * (2 ^ 54 - 1) := by decide
    omega
  have q1 := qs_above lo
  have q2 := qs_below hi
  have q3 := qs_le (M * 4 ^ (53 - pw M))
  have q4 := qs_lt (M * 4 ^ (53 - pw M))
  rw [e4] at q3 q4 q1 q2
  rw [e4]
  unfold un
  rw [e4]
  generalize M * 4 ^ (52 - pw M) = X at q1 q2 q3 q4 ⊢
  generalize qs (4 * X) = q at q1 q2 q3 q4 ⊢
  rcases Nat.mod_two_eq_zero_or_one q with hq | hq
  · obtain ⟨r, rfl⟩ : ∃ r, q = 2 * r := ⟨q / 2, by omega⟩
    have e : (2 * r + 1) / 2 = r := by omega
    rw [e]
    refine ⟨by omega, by omega, ?_, by omega⟩
    obtain ⟨t, ht⟩ : ∃ t, 2 * r = t + 1 := ⟨2 * r - 1, by omega⟩
    have e1 : 2 * r - 1 = t := by omega
    rw [e1]
    have := sq1 t
    rw [← ht] at this
    omega
  · obtain ⟨r, rfl⟩ : ∃ r, q = 2 * r + 1 := ⟨q / 2, by omega⟩
    have e : (2 * r + 1 + 1) / 2 = r + 1 := by omega
    rw [e]
    refine ⟨by omega, by omega, ?_, ?_⟩
    · have e1 : 2 * (r + 1) - 1 = 2 * r + 1 := by omega
      rw [e1]
      have := sq1 (2 * r)
      have e5 : (2 * r) * (2 * r) = 4 * (r * r) := by rw [Nat.mul_mul_mul_comm]
      omega
    · have e1 : 2 * (r + 1) + 1 = (2 * r + 1 + 1) + 1 := by omega
      rw [e1]
      have := sq1 (2 * r + 1 + 1)
      have := sq1 (2 * r + 1)
      omega
theorem un_close {M : Nat} (h0 : M ≠ 0) (h : M < 2 ^ 20) : (un M - 1) * (un M - 1) ≤ M * 4 ^ (52 - pw M) ∧ M * 4 ^ (52 - pw M) ≤ (un M + 1) * (un M + 1) := by
  obtain ⟨a1, a2, a3, a4⟩ := un_spec h0 h
  have hp : pw M ≤ 9 := pw_small (by omega)
  have e4 : M * 4 ^ (53 - pw M) = 4 * (M * 4 ^ (52 - pw M)) := by
    rw [show 53 - pw M = (52 - pw M) + 1 by omega, Nat.pow_succ, ← Nat.mul_assoc, Nat.mul_comm]
  rw [e4] at a3 a4
  generalize M * 4 ^ (52 - pw M) = X at a3 a4 ⊢
  obtain ⟨r, hr⟩ : ∃ r, un M = r + 1 := ⟨un M - 1, by omega⟩
  rw [hr] at a3 a4 ⊢
  have e1 : r + 1 - 1 = r := by omega
  have e2 : 2 * (r + 1) - 1 = 2 * r + 1 := by omega
  have e3 : 2 * (r + 1) + 1 = 2 * r + 1 + 1 + 1 := by omega
  rw [e1]
  rw [e2] at a3
  rw [e3] at a4
  have f1 := sq1 (2 * r)
  have f2 := sq1 (2 * r + 1)
  have f3 := sq1 (2 * r + 1 + 1)
  have f4 : (2 * r) * (2 * r) = 4 * (r * r) := by rw [Nat.mul_mul_mul_comm]
  have f5 := sq1 r
  have f6 := sq1 (r + 1)
  constructor <;> omega
/-- roots rise strictly with their numbers -/
theorem bx_rise {a : Nat} (h0 : a ≠ 0) (h : a < 2 ^ 15) : bx (16 * (a - 1)) < bx (16 * a) := by
  obtain ⟨b, rfl⟩ : ∃ b, a = b + 1 := ⟨a - 1, by omega⟩
  rw [Nat.add_sub_cancel]
  obtain ⟨a1, a2, a3, a4⟩ := un_spec (M := 16 * (b + 1)) (by omega) (by omega)
  have hp : pw (16 * (b + 1)) ≤ 9 := pw_small (by omega)
  unfold bx
  rw [if_neg (show ¬ 16 * (b + 1) = 0 by omega)]
  by_cases hb : b = 0
  · rw [if_pos (by omega)]; omega
  · rw [if_neg (by omega)]
    obtain ⟨b1, b2, b3, b4⟩ := un_spec (M := 16 * b) (by omega) (by omega)
    have hm := pw_mono (a := 16 * b) (b := 16 * (b + 1)) (by omega) (by omega)
    rcases Nat.lt_or_ge (pw (16 * b)) (pw (16 * (b + 1))) with hlt | hge
    · generalize pw (16 * b) = P at *
      generalize pw (16 * (b + 1)) = P' at *
      have : (1021 + P + 1) * 2 ^ 52 ≤ (1021 + P') * 2 ^ 52 := Nat.mul_le_mul_right _ (by omega)
      omega
    · have he : pw (16 * (b + 1)) = pw (16 * b) := by omega
      rw [he] at a3 a4 ⊢
      have hlt : un (16 * b) < un (16 * (b + 1)) := by
        rcases Nat.lt_or_ge (un (16 * b)) (un (16 * (b + 1))) with q | q
        · exact q
        · exfalso
          have hp2 : pw (16 * b) ≤ 9 := by omega
          have c1 : (2 * un (16 * (b + 1)) + 1) * (2 * un (16 * (b + 1)) + 1) ≤ (2 * un (16 * b) + 1) * (2 * un (16 * b) + 1) := Nat.mul_le_mul (by omega) (by omega)
          have c2 : 16 * (b + 1) * 4 ^ (53 - pw (16 * b)) = 16 * b * 4 ^ (53 - pw (16 * b)) + 16 * 4 ^ (53 - pw (16 * b)) := by rw [Nat.mul_add, Nat.add_mul]
          have c3 : 4 ^ 44 ≤ 4 ^ (53 - pw (16 * b)) := Nat.pow_le_pow_right (by decide) (by omega)
          obtain ⟨t, ht⟩ : ∃ t, 2 * un (16 * b) = t + 1 := ⟨2 * un (16 * b) - 1, by omega⟩
          have e1 : 2 * un (16 * b) - 1 = t := by omega
          rw [e1] at b3
          rw [ht] at c1
          have f1 := sq1 t
          have f2 := sq1 (t + 1)
          omega
      omega
/-- a way by a third point is not shorter by more than one: P, Q of two stretches, the roots' bounds -/
theorem tri_core {N1 N2 N3 g1 g2 g3 D : Int} (hg1 : 0 ≤ g1) (hg2 : 0 ≤ g2) (hN : N3 = N1 + N2 + 2 * D) (hcs : D * D ≤ N1 * N2)
    (h1 : 4 * N1 < (2 * g1 + 1) * (2 * g1 + 1)) (h2 : 4 * N2 < (2 * g2 + 1) * (2 * g2 + 1)) (h3 : g3 = 0 ∨ (2 * g3 - 1) * (2 * g3 - 1) ≤ 4 * N3) (hN1 : 0 ≤ N1) (hN2 : 0 ≤ N2) : g3 ≤ g1 + g2 + 1 := by
  rcases h3 with h3 | h3
  · omega
  · apply Int.le_of_lt_add_one
    apply Int.lt_of_not_ge
    intro hge
    have hP : 0 ≤ 2 * g1 + 1 := by omega
    have hQ : 0 ≤ 2 * g2 + 1 := by omega
    generalize hp : 2 * g1 + 1 = P at *
    generalize hq : 2 * g2 + 1 = Q at *
    have hR : P + Q + 1 ≤ 2 * g3 - 1 := by omega
    have hPQ : 0 ≤ P * Q := Int.mul_nonneg hP hQ
    -- D ≤ P*Q/4: (4 D)^2 ≤ 16 N1 N2 ≤ (P Q)^2
    have hD : 4 * D ≤ P * Q := by
      apply Int.le_of_not_gt
      intro hlt
      have k1 : (P * Q) * (P * Q) < (4 * D) * (4 * D) := by
        have a : (P * Q) * (P * Q) ≤ (P * Q) * (4 * D) := Int.mul_le_mul_of_nonneg_left (by omega) hPQ
        have b : (P * Q) * (4 * D) < (4 * D) * (4 * D) := Int.mul_lt_mul_of_pos_right hlt (by omega)
        omega
      have k2 : (4 * N1) * (4 * N2) ≤ (P * P) * (Q * Q) := Int.mul_le_mul (by omega) (by omega) (by omega) (Int.mul_nonneg hP hP)
      have k3 : (4 * D) * (4 * D) = 16 * (D * D) := by grind
      have k4 : (4 * N1) * (4 * N2) = 16 * (N1 * N2) := by grind
      have k5 : (P * P) * (Q * Q) = (P * Q) * (P * Q) := by grind
      omega
    have m1 : (P + Q + 1) * (P + Q + 1) ≤ (2 * g3 - 1) * (2 * g3 - 1) := Int.mul_le_mul hR hR (by omega) (by omega)
    have m2 : (P + Q + 1) * (P + Q + 1) = P * P + Q * Q + 2 * (P * Q) + 2 * P + 2 * Q + 1 := by grind
    omega
theorem cs_core (a b c d : Int) : (a * c + b * d) * (a * c + b * d) ≤ (a * a + b * b) * (c * c + d * d) := by
  have h : (a * a + b * b) * (c * c + d * d) = (a * c + b * d) * (a * c + b * d) + (a * d - b * c) * (a * d - b * c) := by grind
  have h2 : 0 ≤ (a * d - b * c) * (a * d - b * c) := by
    rcases Int.le_total 0 (a * d - b * c) with q | q
    · exact Int.mul_nonneg q q
    · exact Int.mul_nonneg_of_nonpos_of_nonpos q q
  omega
end PURE
end
