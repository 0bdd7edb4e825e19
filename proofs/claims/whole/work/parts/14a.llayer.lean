/-! ===== the law's loop: its world, its rows ===== -/
section PGL
abbrev lwJ (aJ cJ : Nat) (f : Nat → Int64) : Nat × va_E := (aJ, .inl (cJ, 1, .inr (.inl f)))
abbrev lwD (aD cD : Nat) (g : Nat → UInt64) : Nat × va_E := (aD, .inl (cD, 1, .inr (.inr (.inr (.inl g)))))
abbrev lwW (X Y : pgX) (S1 S2 : pgS) (t : Int) (o d : Nat × va_E) : va_W := (o :: xC X S1) ++ (d :: mC Y S2 t)
abbrev lwB (b : Nat) (X Y : pgX) (aJ aD i : Nat) : List (Nat × Value) := [(0, .ref b), (1, .ref (xa X 0)), (2, .ref (xa Y 0)), (3, .ref aJ), (4, .ref aD), (5, .int (iI (i : Int)))]
def lwK (l : Launch) (p : Program) (s : State) (m : MethodId) (c : Code) (args : Array Value) (b L : Nat) (xs : Nat → Int32) (X Y : pgX) (cJ cD : Nat) : Prop :=
  CallFix p m c code 9 s args wsL_law RL ∧ l.stackTraces = false ∧ va_X b L xs s s.heap ∧ b < s.heap.size ∧ L ≤ 2560 ∧ xG Y = xG X ∧ va_K (xG X) vwCl (xTy X ++ [(cJ, .long)]) s ∧ va_K (xG X) vwCl (xTy X ++ [(cD, .double)]) s ∧ va_K (xG X) vwCl (xTy Y) s ∧ exB s.heap.size s ∧ ncB s
def lwG (s : State) (X Y : pgX) (cJ aJ cD aD : Nat) (S : pgS) (t : Int) (f : Nat → Int64) (g : Nat → UInt64) (H : Heap) (locs : List Loc) : Prop :=
  va_P (xG X) vwCl (lwW X Y S S t (lwJ aJ cJ f) (lwD aD cD g)) H ∧ va_D (fun q => s.heap.size ≤ q) (lwW X Y S S t (lwJ aJ cJ f) (lwD aD cD g)) ∧ va_S (fun q => s.heap.size ≤ q) s.heap H locs ∧ pgOk S
theorem lw_hX {G : va_G} {X Y : pgX} {S1 S2 : pgS} {t : Int} {o d : Nat × va_E} {H : Heap} (hP : va_P G vwCl (lwW X Y S1 S2 t o d) H) : va_P G vwCl (xC X S1) H := pg_part (l1 := [o]) (l2 := d :: mC Y S2 t) hP
theorem lw_hY {G : va_G} {X Y : pgX} {S1 S2 : pgS} {t : Int} {o d : Nat × va_E} {H : Heap} (hP : va_P G vwCl (lwW X Y S1 S2 t o d) H) : va_P G vwCl (mC Y S2 t) H := pg_part (l1 := o :: (xC X S1 ++ [d])) (l2 := []) hP
theorem lw_mB {X Y : pgX} {S1 S2 : pgS} {t : Int} {o d : Nat × va_E} {s : State} {H : Heap} (hYX : xG Y = xG X) (hKY : va_K (xG X) vwCl (xTy Y) s) (hP : va_P (xG X) vwCl (lwW X Y S1 S2 t o d) H) : pg_h (mB Y S2 t) s H :=
  mB_h (by rw [hYX]; exact lw_hY hP) (by rw [hYX]; exact hKY)
theorem lw_xW {X Y : pgX} {S1 S2 : pgS} {t : Int} {o d : Nat × va_E} {s : State} {H : Heap} {locs : List Loc} (hKX : va_K (xG X) vwCl (xTy X) s) (hP : va_P (xG X) vwCl (lwW X Y S1 S2 t o d) H) (hS : va_S (fun q => s.heap.size ≤ q) s.heap H locs) (hE : exB s.heap.size s) (hN : ncB s) : pg_h (xW s.heap.size X S1) s H :=
  fun U hU hW => ⟨⟨xB_h (lw_hX hP) hKX U hU hW, exB_h hE (fun q h1 h2 => hS.2.1 q h1 h2) U hU hW⟩, fun q hq => va_Nc.moved hW.alike (hN q hq)⟩
theorem pg_cY {l : Launch} {y : MethodName} {ws : List Cond} {rm : Room} {X Y : pgX} {tys : List (ClassId × FieldType)} {B : State → Prop} {w w' : va_W} {mc ms : Nat} {av : List Value} {r : Option Value} (h : xG Y = xG X) (c : pg_wr l y ws rm (xG Y) tys B w w' mc ms av r) : pg_wr l y ws rm (xG X) tys B w w' mc ms av r := by
  rw [← h]; exact c
end PGL
section PGM
variable {p : Program} {l : Launch} {e : Env} {R : Room} {s : State} {m : MethodId} {args : Array Value} {below : List Frame} {meth : Method} {c : Code} {H : Heap} {locs : List Loc} {cells slots : Nat} {Q : State → Prop}
variable {cc : ByteArray} {pc : Nat} {ls : Array Slot} {rest : List Value}
theorem pg_widen {g : JFrame} {k n : Nat} (h1 : cells ≤ k) (h2 : slots ≤ n) (kk : W p l e R s m args below meth c H locs k n Q g) : W p l e R s m args below meth c H locs cells slots Q g := fun T hT X => kk T hT (stand_widen X h1 h2)
/-- script[i + k] -/
theorem lw_sc (hx : p.tables.exec = Jvm.exec) (hb : c.code = cc) {b i j L : Nat} {xs : Nat → Int32} {v k : Int} {A : Nat → Prop} (hX : va_X b L xs s s.heap) (hbl : b < s.heap.size) (hbA : ¬ A b) (hS : va_S A s.heap H locs) (h0 : ls[0]? = some (.val (.ref b))) (h5 : ls[5]? = some (.val (.int (iI (i : Int))))) (hj : (i : Int) + k = (j : Int)) (hjL : j < L) (hL : L ≤ 2560) (hv : xs j = iI v)
    (d0 : decode cc pc = .ok (.aload_n 0, 1)) (d1 : decode cc (pc + 1) = .ok (.iload 5, 2)) (d3 : decode cc (pc + 3) = .ok (.iconst k, 1)) (d4 : decode cc (pc + 4) = .ok (.iadd, 1)) (d5 : decode cc (pc + 5) = .ok (.iaload, 1))
    (kk : W p l e R s m args below meth c H locs cells slots Q (F0 m (pc + 6) ls (.int (iI v) :: rest))) : W p l e R s m args below meth c H locs cells slots Q (F0 m pc ls rest) := by
  refine lv_aload_n hx hb d0 rfl h0 ?_
  refine lv_iload hx hb d1 h5 ?_
  refine lv_iconst (v := iI k) hx hb d3 rfl ?_
  refine pg_iadd (z := (j : Int)) hx hb d4 hj ?_
  refine va_sld hx hb hX hbl hbA hS (i := iI (j : Int)) (iI_in hjL (by omega)) d5 (pg_ti (y := iI v) ?_ kk)
  rw [iI_clamp (by omega)]
  exact hv
/-- z != 0 as a value -/
theorem lw_bool (hx : p.tables.exec = Jvm.exec) (hb : c.code = cc) {v b : Int} (hv : inI v) (h : (v = 0 ∧ b = 0) ∨ (v ≠ 0 ∧ b = 1)) (d0 : decode cc pc = .ok (.ifCond .eq 7, 3)) (d1 : decode cc (pc + 3) = .ok (.iconst 1, 1)) (d2 : decode cc (pc + 4) = .ok (.goto 4, 3)) (d3 : decode cc (pc + 7) = .ok (.iconst 0, 1))
    (kk : W p l e R s m args below meth c H locs cells slots Q (F0 m (pc + 8) ls (.int (iI b) :: rest))) : W p l e R s m args below meth c H locs cells slots Q (F0 m pc ls (.int (iI v) :: rest)) := by
  refine pg_if_eq (tgt := pc + 7) hx hb d0 (by omega) hv (fun h0 => ?_) (fun h1 => ?_)
  · have hb0 : b = 0 := by omega
    subst hb0
    exact lv_iconst (v := iI 0) hx hb d3 rfl kk
  · have hb1 : b = 1 := by omega
    subst hb1
    refine lv_iconst (v := iI 1) hx hb d1 rfl ?_
    exact lv_goto (tgt := pc + 8) hx hb d2 (by omega) kk
/-- z ? 1L : 0L -/
theorem lw_lbool (hx : p.tables.exec = Jvm.exec) (hb : c.code = cc) {v : Int} (h : v = 0 ∨ v = 1) (d0 : decode cc pc = .ok (.ifCond .eq 7, 3)) (d1 : decode cc (pc + 3) = .ok (.lconst 1, 1)) (d2 : decode cc (pc + 4) = .ok (.goto 4, 3)) (d3 : decode cc (pc + 7) = .ok (.lconst 0, 1))
    (kk : W p l e R s m args below meth c H locs cells slots Q (F0 m (pc + 8) ls (.long (lI v) :: rest))) : W p l e R s m args below meth c H locs cells slots Q (F0 m pc ls (.int (iI v) :: rest)) := by
  refine pg_if_eq (tgt := pc + 7) hx hb d0 (by omega) ⟨by omega, by omega⟩ (fun h0 => ?_) (fun h1 => ?_)
  · subst h0
    exact lv_lconst (v := lI 0) hx hb d3 rfl kk
  · have hb1 : v = 1 := by omega
    subst hb1
    refine lv_lconst (v := lI 1) hx hb d1 rfl ?_
    exact lv_goto (tgt := pc + 8) hx hb d2 (by omega) kk
/-- thrown() equals k: on -/
theorem lw_same (hx : p.tables.exec = Jvm.exec) (hb : c.code = cc) {k : Int} (hk : inI k) {off : Int} {tgt : Nat} (hdg : decode cc pc = .ok (.if_icmp .eq off, 3)) (ht : (pc : Int) + off = (tgt : Int)) (kk : W p l e R s m args below meth c H locs cells slots Q (F0 m tgt ls rest)) : W p l e R s m args below meth c H locs cells slots Q (F0 m pc ls (.int (iI k) :: .int (iI k) :: rest)) :=
  pg_icmp_eq hx hb hdg ht hk hk (fun _ => kk) (fun h => absurd rfl h)
/-- two longs that are equal: on -/
theorem lw_leq (hx : p.tables.exec = Jvm.exec) (hb : c.code = cc) {x y : Int64} (hxy : x = y) {off : Int} {tgt : Nat} (d0 : decode cc pc = .ok (.lcmp, 1)) (d1 : decode cc (pc + 1) = .ok (.ifCond .eq off, 3)) (ht : ((pc + 1 : Nat) : Int) + off = (tgt : Int)) (kk : W p l e R s m args below meth c H locs cells slots Q (F0 m tgt ls rest)) : W p l e R s m args below meth c H locs cells slots Q (F0 m pc ls (.long y :: .long x :: rest)) := by
  subst hxy
  have hz : inL x.toInt := ⟨by have := Int64.le_toInt x; omega, by have := Int64.toInt_lt x; omega⟩
  have hxx : x = lI x.toInt := (Int64.ofInt_toInt x).symm
  rw [hxx]
  refine pg_lcmp hx hb d0 hz hz (fun z h => ?_)
  exact pg_if_eq hx hb d1 ht ⟨by omega, by omega⟩ (fun _ => kk) (fun h1 => absurd h1 (by omega))
end PGM
