/-! ===== rows over whole numbers: an int is iI z, a long lI z, z an Int ===== -/
section PGI
def iI (z : Int) : Int32 := Int32.ofInt z
def lI (z : Int) : Int64 := Int64.ofInt z
abbrev inI (z : Int) : Prop := -2147483648 ≤ z ∧ z < 2147483648
abbrev inL (z : Int) : Prop := -9223372036854775808 ≤ z ∧ z < 9223372036854775808
theorem iI_toInt {z : Int} (h : inI z) : (iI z).toInt = z := Int32.toInt_ofInt_of_le (by obtain ⟨a, b⟩ := h; omega) (by obtain ⟨a, b⟩ := h; omega)
theorem lI_toInt {z : Int} (h : inL z) : (lI z).toInt = z := Int64.toInt_ofInt_of_le (by obtain ⟨a, b⟩ := h; omega) (by obtain ⟨a, b⟩ := h; omega)
theorem inL_nat {q : Nat} (h : q < 2 ^ 63) : inL (q : Int) := ⟨by omega, by omega⟩
theorem inI_nat {q : Nat} (h : q < 2 ^ 31) : inI (q : Int) := ⟨by omega, by omega⟩
theorem iI_self (x : Int32) : x = iI x.toInt := (Int32.ofInt_toInt x).symm
theorem inI_self (x : Int32) : inI x.toInt := ⟨by have := Int32.le_toInt x; omega, by have := Int32.toInt_lt x; omega⟩
theorem iI_le {a b : Int} (ha : inI a) (hb : inI b) : iI a ≤ iI b ↔ a ≤ b := by rw [Int32.le_iff_toInt_le, iI_toInt ha, iI_toInt hb]
theorem iI_lt {a b : Int} (ha : inI a) (hb : inI b) : iI a < iI b ↔ a < b := by rw [Int32.lt_iff_toInt_lt, iI_toInt ha, iI_toInt hb]
theorem iI_eq {a b : Int} (ha : inI a) (hb : inI b) : iI a = iI b ↔ a = b := by rw [← Int32.toInt_inj, iI_toInt ha, iI_toInt hb]
theorem lI_lt {a b : Int} (ha : inL a) (hb : inL b) : lI a < lI b ↔ a < b := by rw [Int64.lt_iff_toInt_lt, lI_toInt ha, lI_toInt hb]
theorem lI_eq {a b : Int} (ha : inL a) (hb : inL b) : lI a = lI b ↔ a = b := by rw [← Int64.toInt_inj, lI_toInt ha, lI_toInt hb]
theorem iI_n (n : Nat) : iI (n : Int) = nI n := by apply Int32.toBitVec_inj.mp; show BitVec.ofInt 32 n = BitVec.ofNat 32 n; simp
theorem lI_bv (n : Nat) : (lI (n : Int)).toBitVec = BitVec.ofNat 64 n := by show (Int64.ofInt n).toBitVec = _; simp
theorem lI_sh (k : Nat) (hk : k < 64) : ((iI (k : Int)).toInt64 &&& 63).toBitVec.smod 64 = BitVec.ofNat 64 k := by
  have h : ∀ k : Nat, k < 64 → ((iI (k : Int)).toInt64 &&& 63).toBitVec.smod 64 = BitVec.ofNat 64 k := by decide +kernel
  exact h k hk
theorem lI_shu (k : Nat) (hk : k < 64) : ((iI (k : Int)).toInt64.toUInt64 &&& Int64.toUInt64 63).toBitVec % 64 = BitVec.ofNat 64 k := by
  have h : ∀ k : Nat, k < 64 → ((iI (k : Int)).toInt64.toUInt64 &&& Int64.toUInt64 63).toBitVec % 64 = BitVec.ofNat 64 k := by decide +kernel
  exact h k hk
theorem lI_shl (n k : Nat) (hk : k < 64) : lI (n : Int) <<< ((iI (k : Int)).toInt64 &&& 63) = lI ((n * 2 ^ k : Nat) : Int) := by
  apply Int64.toBitVec_inj.mp
  rw [Int64.toBitVec_shiftLeft, lI_sh k hk, lI_bv, lI_bv]
  apply BitVec.eq_of_toNat_eq
  rw [BitVec.shiftLeft_eq', BitVec.toNat_shiftLeft, BitVec.toNat_ofNat, BitVec.toNat_ofNat, BitVec.toNat_ofNat, Nat.mod_eq_of_lt (show k < 2 ^ 64 by omega), Nat.shiftLeft_eq, Nat.mod_mul_mod]
theorem lI_shr (n k : Nat) (hn : n < 2 ^ 63) (hk : k < 64) : lI (n : Int) >>> ((iI (k : Int)).toInt64 &&& 63) = lI ((n / 2 ^ k : Nat) : Int) := by
  apply Int64.toInt_inj.mp
  have h1 : n / 2 ^ k ≤ n := Nat.div_le_self _ _
  rw [lI_toInt (inL_nat (Nat.lt_of_le_of_lt h1 hn))]
  show ((lI (n : Int)) >>> ((iI (k : Int)).toInt64 &&& 63)).toBitVec.toInt = _
  rw [Int64.toBitVec_shiftRight, lI_sh k hk, BitVec.sshiftRight_eq', BitVec.toInt_sshiftRight, BitVec.toNat_ofNat, Nat.mod_eq_of_lt (show k < 2 ^ 64 by omega)]
  have e : (lI (n : Int)).toBitVec.toInt = (n : Int) := lI_toInt ⟨by omega, by omega⟩
  rw [e, Int.shiftRight_eq_div_pow]
  simp
theorem lI_ushr (n k : Nat) (hn : n < 2 ^ 63) (hk : k < 64) : ((lI (n : Int)).toUInt64 >>> ((iI (k : Int)).toInt64.toUInt64 &&& Int64.toUInt64 63)).toInt64 = lI ((n / 2 ^ k : Nat) : Int) := by
  apply Int64.toBitVec_inj.mp
  rw [UInt64.toBitVec_toInt64, UInt64.toBitVec_shiftRight, lI_shu k hk, Int64.toBitVec_toUInt64, lI_bv, lI_bv]
  apply BitVec.eq_of_toNat_eq
  have h1 : n / 2 ^ k ≤ n := Nat.div_le_self _ _
  rw [BitVec.ushiftRight_eq', BitVec.toNat_ushiftRight, BitVec.toNat_ofNat, BitVec.toNat_ofNat, BitVec.toNat_ofNat, Nat.mod_eq_of_lt (show k < 2 ^ 64 by omega), Nat.shiftRight_eq_div_pow, Nat.mod_eq_of_lt (show n < 2 ^ 64 by omega), Nat.mod_eq_of_lt (Nat.lt_of_le_of_lt h1 (show n < 2 ^ 64 by omega))]
theorem lI_mask (n k : Nat) (hn : n < 2 ^ 64) (hk : k < 64) : lI (n : Int) &&& lI ((2 ^ k - 1 : Nat) : Int) = lI ((n % 2 ^ k : Nat) : Int) := by
  apply Int64.toBitVec_inj.mp
  rw [Int64.toBitVec_and, lI_bv, lI_bv, lI_bv]
  apply BitVec.eq_of_toNat_eq
  have h1 : n % 2 ^ k ≤ n := Nat.mod_le _ _
  have h2 : 2 ^ k ≤ 2 ^ 63 := Nat.pow_le_pow_right (by decide) (by omega)
  rw [BitVec.toNat_and, BitVec.toNat_ofNat, BitVec.toNat_ofNat, BitVec.toNat_ofNat, Nat.mod_eq_of_lt hn, Nat.mod_eq_of_lt (show 2 ^ k - 1 < 2 ^ 64 by omega), Nat.mod_eq_of_lt (show n % 2 ^ k < 2 ^ 64 by omega), Nat.and_two_pow_sub_one_eq_mod]
theorem lI_or (n k : Nat) (hn : n < 2 ^ k) (hk : k < 63) : lI (n : Int) ||| lI ((2 ^ k : Nat) : Int) = lI ((2 ^ k + n : Nat) : Int) := by
  apply Int64.toBitVec_inj.mp
  rw [Int64.toBitVec_or, lI_bv, lI_bv, lI_bv]
  apply BitVec.eq_of_toNat_eq
  have h2 : 2 ^ k ≤ 2 ^ 62 := Nat.pow_le_pow_right (by decide) (by omega)
  have h3 := Nat.two_pow_add_eq_or_of_lt hn 1
  rw [BitVec.toNat_or, BitVec.toNat_ofNat, BitVec.toNat_ofNat, BitVec.toNat_ofNat, Nat.mod_eq_of_lt (show n < 2 ^ 64 by omega), Nat.mod_eq_of_lt (show 2 ^ k < 2 ^ 64 by omega), Nat.mod_eq_of_lt (show 2 ^ k + n < 2 ^ 64 by omega), Nat.or_comm]
  rw [Nat.mul_one] at h3
  exact h3.symm
theorem iI_shr (n k : Nat) (hn : n < 2 ^ 31) (hk : k < 32) : iI (n : Int) >>> (iI (k : Int) &&& 31) = iI ((n / 2 ^ k : Nat) : Int) := by
  have hs : ∀ k : Nat, k < 32 → ((iI (k : Int) &&& 31).toBitVec.smod 32) = BitVec.ofNat 32 k := by decide +kernel
  apply Int32.toInt_inj.mp
  have h1 : n / 2 ^ k ≤ n := Nat.div_le_self _ _
  rw [iI_toInt (inI_nat (Nat.lt_of_le_of_lt h1 hn))]
  show ((iI (n : Int)) >>> (iI (k : Int) &&& 31)).toBitVec.toInt = _
  rw [Int32.toBitVec_shiftRight, hs k hk, BitVec.sshiftRight_eq', BitVec.toInt_sshiftRight, BitVec.toNat_ofNat, Nat.mod_eq_of_lt (show k < 2 ^ 32 by omega)]
  have e : (iI (n : Int)).toBitVec.toInt = (n : Int) := iI_toInt ⟨by omega, by omega⟩
  rw [e, Int.shiftRight_eq_div_pow]
  simp
theorem iI_and (a b : Nat) (ha : a < 2 ^ 31) (hb : b < 2 ^ 31) : iI (a : Int) &&& iI (b : Int) = iI ((a &&& b : Nat) : Int) := by
  apply Int32.toBitVec_inj.mp
  have e : ∀ n : Nat, (iI (n : Int)).toBitVec = BitVec.ofNat 32 n := fun n => by show (Int32.ofInt n).toBitVec = _; simp
  have h : a &&& b ≤ a := Nat.and_le_left
  rw [Int32.toBitVec_and, e, e, e]
  apply BitVec.eq_of_toNat_eq
  rw [BitVec.toNat_and, BitVec.toNat_ofNat, BitVec.toNat_ofNat, BitVec.toNat_ofNat, Nat.mod_eq_of_lt (show a < 2 ^ 32 by omega), Nat.mod_eq_of_lt (show b < 2 ^ 32 by omega), Nat.mod_eq_of_lt (show a &&& b < 2 ^ 32 by omega)]
theorem iI_l {z : Int} (h : inI z) : (iI z).toInt64 = lI z := by
  apply Int64.toInt_inj.mp
  obtain ⟨h1, h2⟩ := h
  rw [Int32.toInt_toInt64, iI_toInt ⟨h1, h2⟩, lI_toInt ⟨by omega, by omega⟩]
theorem lI_i (z : Int) : (lI z).toInt32 = iI z := Int64.toInt32_ofInt
theorem iI_bool {z : Int} (h : z = 0 ∨ z = 1) : narrow .boolean (.int (iI z)) = .int (iI z) := by
  rcases h with rfl | rfl <;> decide +kernel
def upN (f : Nat → Nat) (k v : Nat) : Nat → Nat := fun j => if j = k then v else f j
abbrev fI (f : Nat → Nat) : Nat → Int32 := fun i => iI (f i : Int)
theorem upd_fI (f : Nat → Nat) (k v : Nat) : upd (fI f) k (iI (v : Int)) = fI (upN f k v) := by
  funext j
  unfold upd fI upN
  by_cases h : j = k <;> simp [h]
theorem iI_clamp {n : Nat} (h : n < 2 ^ 31) : (iI (n : Int)).toNatClampNeg = n := by rw [iI_n]; exact nI_clamp h
theorem iI_in {n N : Nat} (h : n < N) (hN : N < 2 ^ 31) : vp_in (iI (n : Int)) N := by rw [iI_n]; exact vp_in_nI h hN
end PGI
section PGR
variable {p : Program} {l : Launch} {e : Env} {R : Room} {s : State} {m : MethodId} {args : Array Value} {below : List Frame} {meth : Method} {c : Code} {H : Heap} {locs : List Loc} {cells slots : Nat} {Q : State → Prop}
variable {cc : ByteArray} {pc : Nat} {ls : Array Slot} {rest : List Value}
theorem pg_ti {x y : Int32} (h : x = y) (k : W p l e R s m args below meth c H locs cells slots Q (F0 m pc ls (.int y :: rest))) : W p l e R s m args below meth c H locs cells slots Q (F0 m pc ls (.int x :: rest)) := h ▸ k
theorem pg_tl {x y : Int64} (h : x = y) (k : W p l e R s m args below meth c H locs cells slots Q (F0 m pc ls (.long y :: rest))) : W p l e R s m args below meth c H locs cells slots Q (F0 m pc ls (.long x :: rest)) := h ▸ k
theorem pg_iadd (hx : p.tables.exec = Jvm.exec) (hb : c.code = cc) {a b z : Int} (hdg : decode cc pc = .ok (.iadd, 1)) (hz : a + b = z) (k : W p l e R s m args below meth c H locs cells slots Q (F0 m (pc + 1) ls (.int (iI z) :: rest))) : W p l e R s m args below meth c H locs cells slots Q (F0 m pc ls (.int (iI b) :: .int (iI a) :: rest)) :=
  lv_iadd hx hb hdg (pg_ti (by subst hz; exact (Int32.ofInt_add a b).symm) k)
theorem pg_isub (hx : p.tables.exec = Jvm.exec) (hb : c.code = cc) {a b z : Int} (hdg : decode cc pc = .ok (.isub, 1)) (hz : a - b = z) (k : W p l e R s m args below meth c H locs cells slots Q (F0 m (pc + 1) ls (.int (iI z) :: rest))) : W p l e R s m args below meth c H locs cells slots Q (F0 m pc ls (.int (iI b) :: .int (iI a) :: rest)) :=
  lv_isub hx hb hdg (pg_ti (by subst hz; exact (Int32.ofInt_sub a b).symm) k)
theorem pg_imul (hx : p.tables.exec = Jvm.exec) (hb : c.code = cc) {a b z : Int} (hdg : decode cc pc = .ok (.imul, 1)) (hz : a * b = z) (k : W p l e R s m args below meth c H locs cells slots Q (F0 m (pc + 1) ls (.int (iI z) :: rest))) : W p l e R s m args below meth c H locs cells slots Q (F0 m pc ls (.int (iI b) :: .int (iI a) :: rest)) :=
  lv_imul hx hb hdg (pg_ti (by subst hz; exact (Int32.ofInt_mul a b).symm) k)
theorem pg_ineg (hx : p.tables.exec = Jvm.exec) (hb : c.code = cc) {a z : Int} (hdg : decode cc pc = .ok (.ineg, 1)) (hz : -a = z) (k : W p l e R s m args below meth c H locs cells slots Q (F0 m (pc + 1) ls (.int (iI z) :: rest))) : W p l e R s m args below meth c H locs cells slots Q (F0 m pc ls (.int (iI a) :: rest)) :=
  lv_ineg hx hb hdg (pg_ti (by subst hz; exact (Int32.ofInt_neg a).symm) k)
theorem pg_iand (hx : p.tables.exec = Jvm.exec) (hb : c.code = cc) {a b z : Nat} {x y : Int} (hdg : decode cc pc = .ok (.iand, 1)) (hxa : x = a) (hyb : y = b) (ha : a < 2 ^ 31) (hb' : b < 2 ^ 31) (hz : a &&& b = z) (k : W p l e R s m args below meth c H locs cells slots Q (F0 m (pc + 1) ls (.int (iI z) :: rest))) : W p l e R s m args below meth c H locs cells slots Q (F0 m pc ls (.int (iI y) :: .int (iI x) :: rest)) :=
  lv_iand hx hb hdg (pg_ti (by subst hz; subst hxa; subst hyb; exact iI_and a b ha hb') k)
theorem pg_ishr (hx : p.tables.exec = Jvm.exec) (hb : c.code = cc) {n j z : Nat} {x y : Int} (hdg : decode cc pc = .ok (.ishr, 1)) (hxa : x = n) (hyb : y = j) (hn : n < 2 ^ 31) (hj : j < 32) (hz : n / 2 ^ j = z) (k : W p l e R s m args below meth c H locs cells slots Q (F0 m (pc + 1) ls (.int (iI z) :: rest))) : W p l e R s m args below meth c H locs cells slots Q (F0 m pc ls (.int (iI y) :: .int (iI x) :: rest)) :=
  lv_ishr hx hb hdg (pg_ti (by subst hz; subst hxa; subst hyb; exact iI_shr n j hn hj) k)
theorem pg_ladd (hx : p.tables.exec = Jvm.exec) (hb : c.code = cc) {a b z : Int} (hdg : decode cc pc = .ok (.ladd, 1)) (hz : a + b = z) (k : W p l e R s m args below meth c H locs cells slots Q (F0 m (pc + 1) ls (.long (lI z) :: rest))) : W p l e R s m args below meth c H locs cells slots Q (F0 m pc ls (.long (lI b) :: .long (lI a) :: rest)) :=
  lv_ladd hx hb hdg (pg_tl (by subst hz; exact (Int64.ofInt_add a b).symm) k)
theorem pg_lsub (hx : p.tables.exec = Jvm.exec) (hb : c.code = cc) {a b z : Int} (hdg : decode cc pc = .ok (.lsub, 1)) (hz : a - b = z) (k : W p l e R s m args below meth c H locs cells slots Q (F0 m (pc + 1) ls (.long (lI z) :: rest))) : W p l e R s m args below meth c H locs cells slots Q (F0 m pc ls (.long (lI b) :: .long (lI a) :: rest)) :=
  lv_lsub hx hb hdg (pg_tl (by subst hz; exact (Int64.ofInt_sub a b).symm) k)
theorem pg_lmul (hx : p.tables.exec = Jvm.exec) (hb : c.code = cc) {a b z : Int} (hdg : decode cc pc = .ok (.lmul, 1)) (hz : a * b = z) (k : W p l e R s m args below meth c H locs cells slots Q (F0 m (pc + 1) ls (.long (lI z) :: rest))) : W p l e R s m args below meth c H locs cells slots Q (F0 m pc ls (.long (lI b) :: .long (lI a) :: rest)) :=
  lv_lmul hx hb hdg (pg_tl (by subst hz; exact (Int64.ofInt_mul a b).symm) k)
theorem lI_div (a b : Nat) (ha : a < 2 ^ 63) (hb : b < 2 ^ 63) (h0 : 0 < b) : lI (a : Int) / lI (b : Int) = lI ((a / b : Nat) : Int) := by
  apply Int64.toInt_inj.mp
  have h1 : a / b ≤ a := Nat.div_le_self _ _
  have hne : lI (b : Int) ≠ -1 := by
    intro h
    have := congrArg Int64.toInt h
    rw [lI_toInt ⟨by omega, by omega⟩, show (-1 : Int64).toInt = -1 from rfl] at this
    omega
  rw [Int64.toInt_div_of_ne_right _ _ hne, lI_toInt (inL_nat ha), lI_toInt (inL_nat hb), lI_toInt (inL_nat (Nat.lt_of_le_of_lt h1 ha))]
  rw [Int.tdiv_eq_ediv_of_nonneg (by omega)]
  simp
theorem iI_div (a b : Nat) (ha : a < 2 ^ 31) (hb : b < 2 ^ 31) (h0 : 0 < b) : iI (a : Int) / iI (b : Int) = iI ((a / b : Nat) : Int) := by
  rw [iI_n, iI_n, iI_n]; exact pk_div ha h0 hb
theorem pg_ldiv (hx : p.tables.exec = Jvm.exec) (hb : c.code = cc) {a b z : Nat} {x y : Int} (hdg : decode cc pc = .ok (.ldiv, 1)) (hxa : x = a) (hyb : y = b) (ha : a < 2 ^ 63) (hb' : b < 2 ^ 63) (h0 : 0 < b) (hz : a / b = z) (k : W p l e R s m args below meth c H locs cells slots Q (F0 m (pc + 1) ls (.long (lI z) :: rest))) : W p l e R s m args below meth c H locs cells slots Q (F0 m pc ls (.long (lI y) :: .long (lI x) :: rest)) := by
  subst hz; subst hxa; subst hyb
  exact lv_ldiv hx hb hdg (fun h => by
    have := congrArg Int64.toInt h
    rw [lI_toInt ⟨by omega, by omega⟩, show (0 : Int64).toInt = 0 from rfl] at this
    omega) (pg_tl (lI_div a b ha hb' h0) k)
theorem pg_idiv (hx : p.tables.exec = Jvm.exec) (hb : c.code = cc) {a b z : Nat} {x y : Int} (hdg : decode cc pc = .ok (.idiv, 1)) (hxa : x = a) (hyb : y = b) (ha : a < 2 ^ 31) (hb' : b < 2 ^ 31) (h0 : 0 < b) (hz : a / b = z) (k : W p l e R s m args below meth c H locs cells slots Q (F0 m (pc + 1) ls (.int (iI z) :: rest))) : W p l e R s m args below meth c H locs cells slots Q (F0 m pc ls (.int (iI y) :: .int (iI x) :: rest)) := by
  subst hz; subst hxa; subst hyb
  exact lv_idiv hx hb hdg (fun h => by
    have := congrArg Int32.toInt h
    rw [iI_toInt ⟨by omega, by omega⟩, show (0 : Int32).toInt = 0 from rfl] at this
    omega) (pg_ti (iI_div a b ha hb' h0) k)
theorem pg_lshl (hx : p.tables.exec = Jvm.exec) (hb : c.code = cc) {n j z : Nat} {x y : Int} (hdg : decode cc pc = .ok (.lshl, 1)) (hxa : x = n) (hyb : y = j) (hj : j < 64) (hz : n * 2 ^ j = z) (k : W p l e R s m args below meth c H locs cells slots Q (F0 m (pc + 1) ls (.long (lI z) :: rest))) : W p l e R s m args below meth c H locs cells slots Q (F0 m pc ls (.int (iI y) :: .long (lI x) :: rest)) := by
  subst hz; subst hxa; subst hyb
  exact lv_lshl hx hb hdg (lI_shl n j hj) k
theorem pg_lshr (hx : p.tables.exec = Jvm.exec) (hb : c.code = cc) {n j z : Nat} {x y : Int} (hdg : decode cc pc = .ok (.lshr, 1)) (hxa : x = n) (hyb : y = j) (hn : n < 2 ^ 63) (hj : j < 64) (hz : n / 2 ^ j = z) (k : W p l e R s m args below meth c H locs cells slots Q (F0 m (pc + 1) ls (.long (lI z) :: rest))) : W p l e R s m args below meth c H locs cells slots Q (F0 m pc ls (.int (iI y) :: .long (lI x) :: rest)) := by
  subst hz; subst hxa; subst hyb
  exact lv_lshr hx hb hdg (lI_shr n j hn hj) k
theorem pg_lushr (hx : p.tables.exec = Jvm.exec) (hb : c.code = cc) {n j z : Nat} {x y : Int} (hdg : decode cc pc = .ok (.lushr, 1)) (hxa : x = n) (hyb : y = j) (hn : n < 2 ^ 63) (hj : j < 64) (hz : n / 2 ^ j = z) (k : W p l e R s m args below meth c H locs cells slots Q (F0 m (pc + 1) ls (.long (lI z) :: rest))) : W p l e R s m args below meth c H locs cells slots Q (F0 m pc ls (.int (iI y) :: .long (lI x) :: rest)) := by
  subst hz; subst hxa; subst hyb
  exact lv_lushr hx hb hdg (lI_ushr n j hn hj) k
theorem pg_lmask (hx : p.tables.exec = Jvm.exec) (hb : c.code = cc) {n j z : Nat} {x y : Int} (hdg : decode cc pc = .ok (.land, 1)) (hxa : x = n) (hyb : y = ((2 ^ j - 1 : Nat) : Int)) (hn : n < 2 ^ 64) (hj : j < 64) (hz : n % 2 ^ j = z) (k : W p l e R s m args below meth c H locs cells slots Q (F0 m (pc + 1) ls (.long (lI z) :: rest))) : W p l e R s m args below meth c H locs cells slots Q (F0 m pc ls (.long (lI y) :: .long (lI x) :: rest)) := by
  subst hz; subst hxa; subst hyb
  exact lv_land hx hb hdg (pg_tl (lI_mask n j hn hj) k)
theorem pg_lorp (hx : p.tables.exec = Jvm.exec) (hb : c.code = cc) {n j z : Nat} {x y : Int} (hdg : decode cc pc = .ok (.lor, 1)) (hxa : x = n) (hyb : y = ((2 ^ j : Nat) : Int)) (hn : n < 2 ^ j) (hj : j < 63) (hz : 2 ^ j + n = z) (k : W p l e R s m args below meth c H locs cells slots Q (F0 m (pc + 1) ls (.long (lI z) :: rest))) : W p l e R s m args below meth c H locs cells slots Q (F0 m pc ls (.long (lI y) :: .long (lI x) :: rest)) := by
  subst hz; subst hxa; subst hyb
  exact lv_lor hx hb hdg (pg_tl (lI_or n j hn hj) k)
theorem pg_i2l (hx : p.tables.exec = Jvm.exec) (hb : c.code = cc) {z : Int} (hdg : decode cc pc = .ok (.i2l, 1)) (hz : inI z) (k : W p l e R s m args below meth c H locs cells slots Q (F0 m (pc + 1) ls (.long (lI z) :: rest))) : W p l e R s m args below meth c H locs cells slots Q (F0 m pc ls (.int (iI z) :: rest)) :=
  lv_i2l hx hb hdg (iI_l hz) k
theorem pg_l2i (hx : p.tables.exec = Jvm.exec) (hb : c.code = cc) {z : Int} (hdg : decode cc pc = .ok (.l2i, 1)) (k : W p l e R s m args below meth c H locs cells slots Q (F0 m (pc + 1) ls (.int (iI z) :: rest))) : W p l e R s m args below meth c H locs cells slots Q (F0 m pc ls (.long (lI z) :: rest)) :=
  lv_l2i hx hb hdg (lI_i z) k
theorem pg_lcmp (hx : p.tables.exec = Jvm.exec) (hb : c.code = cc) {a b : Int} (hdg : decode cc pc = .ok (.lcmp, 1)) (ha : inL a) (hb' : inL b) (k : ∀ z : Int, (a < b ∧ z = -1) ∨ (a = b ∧ z = 0) ∨ (b < a ∧ z = 1) → W p l e R s m args below meth c H locs cells slots Q (F0 m (pc + 1) ls (.int (iI z) :: rest))) : W p l e R s m args below meth c H locs cells slots Q (F0 m pc ls (.long (lI b) :: .long (lI a) :: rest)) := by
  refine W.lcmp hx hb hdg ?_
  have e : lg_cmp (lI a) (lI b) = iI (if b < a then 1 else if a = b then 0 else -1) := by
    unfold lg_cmp
    simp only [gt_iff_lt, lI_lt hb' ha, lI_eq ha hb']
    split
    · rfl
    · split <;> rfl
  rw [e]
  refine k _ ?_
  split
  · exact Or.inr (Or.inr ⟨by assumption, rfl⟩)
  · split
    · exact Or.inr (Or.inl ⟨by assumption, rfl⟩)
    · exact Or.inl ⟨by omega, rfl⟩
theorem iI_addp {a b z : Int} (h : a + b = z) : iI a + iI b = iI z := by subst h; exact (Int32.ofInt_add a b).symm
theorem in0 : inI 0 := ⟨by decide, by decide⟩
theorem pg_icmp_eq (hx : p.tables.exec = Jvm.exec) (hb : c.code = cc) {a b : Int} {off : Int} {tgt : Nat} (hdg : decode cc pc = .ok (.if_icmp .eq off, 3)) (ht : (pc : Int) + off = (tgt : Int)) (ha : inI a) (hb' : inI b) (kt : a = b → W p l e R s m args below meth c H locs cells slots Q (F0 m tgt ls rest)) (kf : a ≠ b → W p l e R s m args below meth c H locs cells slots Q (F0 m (pc + 3) ls rest)) : W p l e R s m args below meth c H locs cells slots Q (F0 m pc ls (.int (iI b) :: .int (iI a) :: rest)) :=
  lv_icmp_eq hx hb hdg ht (fun h => kt ((iI_eq ha hb').mp h)) (fun h => kf (fun q => h ((iI_eq ha hb').mpr q)))
theorem pg_icmp_ne (hx : p.tables.exec = Jvm.exec) (hb : c.code = cc) {a b : Int} {off : Int} {tgt : Nat} (hdg : decode cc pc = .ok (.if_icmp .ne off, 3)) (ht : (pc : Int) + off = (tgt : Int)) (ha : inI a) (hb' : inI b) (kt : a ≠ b → W p l e R s m args below meth c H locs cells slots Q (F0 m tgt ls rest)) (kf : a = b → W p l e R s m args below meth c H locs cells slots Q (F0 m (pc + 3) ls rest)) : W p l e R s m args below meth c H locs cells slots Q (F0 m pc ls (.int (iI b) :: .int (iI a) :: rest)) :=
  lv_icmp_ne hx hb hdg ht (fun h => kt (fun q => h ((iI_eq ha hb').mpr q))) (fun h => kf ((iI_eq ha hb').mp h))
theorem pg_icmp_lt (hx : p.tables.exec = Jvm.exec) (hb : c.code = cc) {a b : Int} {off : Int} {tgt : Nat} (hdg : decode cc pc = .ok (.if_icmp .lt off, 3)) (ht : (pc : Int) + off = (tgt : Int)) (ha : inI a) (hb' : inI b) (kt : a < b → W p l e R s m args below meth c H locs cells slots Q (F0 m tgt ls rest)) (kf : b ≤ a → W p l e R s m args below meth c H locs cells slots Q (F0 m (pc + 3) ls rest)) : W p l e R s m args below meth c H locs cells slots Q (F0 m pc ls (.int (iI b) :: .int (iI a) :: rest)) :=
  lv_icmp_lt hx hb hdg ht (fun h => kt ((iI_lt ha hb').mp h)) (fun h => kf (Int.le_of_not_gt (fun q => h ((iI_lt ha hb').mpr q))))
theorem pg_icmp_ge (hx : p.tables.exec = Jvm.exec) (hb : c.code = cc) {a b : Int} {off : Int} {tgt : Nat} (hdg : decode cc pc = .ok (.if_icmp .ge off, 3)) (ht : (pc : Int) + off = (tgt : Int)) (ha : inI a) (hb' : inI b) (kt : b ≤ a → W p l e R s m args below meth c H locs cells slots Q (F0 m tgt ls rest)) (kf : a < b → W p l e R s m args below meth c H locs cells slots Q (F0 m (pc + 3) ls rest)) : W p l e R s m args below meth c H locs cells slots Q (F0 m pc ls (.int (iI b) :: .int (iI a) :: rest)) :=
  lv_icmp_ge hx hb hdg ht (fun h => kt ((iI_le hb' ha).mp h)) (fun h => kf (Int.lt_of_not_ge (fun q => h ((iI_le hb' ha).mpr q))))
theorem pg_icmp_gt (hx : p.tables.exec = Jvm.exec) (hb : c.code = cc) {a b : Int} {off : Int} {tgt : Nat} (hdg : decode cc pc = .ok (.if_icmp .gt off, 3)) (ht : (pc : Int) + off = (tgt : Int)) (ha : inI a) (hb' : inI b) (kt : b < a → W p l e R s m args below meth c H locs cells slots Q (F0 m tgt ls rest)) (kf : a ≤ b → W p l e R s m args below meth c H locs cells slots Q (F0 m (pc + 3) ls rest)) : W p l e R s m args below meth c H locs cells slots Q (F0 m pc ls (.int (iI b) :: .int (iI a) :: rest)) :=
  lv_icmp_gt hx hb hdg ht (fun h => kt ((iI_lt hb' ha).mp h)) (fun h => kf (Int.le_of_not_gt (fun q => h ((iI_lt hb' ha).mpr q))))
theorem pg_icmp_le (hx : p.tables.exec = Jvm.exec) (hb : c.code = cc) {a b : Int} {off : Int} {tgt : Nat} (hdg : decode cc pc = .ok (.if_icmp .le off, 3)) (ht : (pc : Int) + off = (tgt : Int)) (ha : inI a) (hb' : inI b) (kt : a ≤ b → W p l e R s m args below meth c H locs cells slots Q (F0 m tgt ls rest)) (kf : b < a → W p l e R s m args below meth c H locs cells slots Q (F0 m (pc + 3) ls rest)) : W p l e R s m args below meth c H locs cells slots Q (F0 m pc ls (.int (iI b) :: .int (iI a) :: rest)) :=
  lv_icmp_le hx hb hdg ht (fun h => kt ((iI_le ha hb').mp h)) (fun h => kf (Int.lt_of_not_ge (fun q => h ((iI_le ha hb').mpr q))))
theorem pg_if_eq (hx : p.tables.exec = Jvm.exec) (hb : c.code = cc) {a : Int} {off : Int} {tgt : Nat} (hdg : decode cc pc = .ok (.ifCond .eq off, 3)) (ht : (pc : Int) + off = (tgt : Int)) (ha : inI a) (kt : a = 0 → W p l e R s m args below meth c H locs cells slots Q (F0 m tgt ls rest)) (kf : a ≠ 0 → W p l e R s m args below meth c H locs cells slots Q (F0 m (pc + 3) ls rest)) : W p l e R s m args below meth c H locs cells slots Q (F0 m pc ls (.int (iI a) :: rest)) := by
  have hb' := in0
  exact lv_if_eq hx hb hdg ht (fun h => kt ((iI_eq ha hb').mp h)) (fun h => kf (fun q => h ((iI_eq ha hb').mpr q)))
theorem pg_if_ne (hx : p.tables.exec = Jvm.exec) (hb : c.code = cc) {a : Int} {off : Int} {tgt : Nat} (hdg : decode cc pc = .ok (.ifCond .ne off, 3)) (ht : (pc : Int) + off = (tgt : Int)) (ha : inI a) (kt : a ≠ 0 → W p l e R s m args below meth c H locs cells slots Q (F0 m tgt ls rest)) (kf : a = 0 → W p l e R s m args below meth c H locs cells slots Q (F0 m (pc + 3) ls rest)) : W p l e R s m args below meth c H locs cells slots Q (F0 m pc ls (.int (iI a) :: rest)) := by
  have hb' := in0
  exact lv_if_ne hx hb hdg ht (fun h => kt (fun q => h ((iI_eq ha hb').mpr q))) (fun h => kf ((iI_eq ha hb').mp h))
theorem pg_if_lt (hx : p.tables.exec = Jvm.exec) (hb : c.code = cc) {a : Int} {off : Int} {tgt : Nat} (hdg : decode cc pc = .ok (.ifCond .lt off, 3)) (ht : (pc : Int) + off = (tgt : Int)) (ha : inI a) (kt : a < 0 → W p l e R s m args below meth c H locs cells slots Q (F0 m tgt ls rest)) (kf : 0 ≤ a → W p l e R s m args below meth c H locs cells slots Q (F0 m (pc + 3) ls rest)) : W p l e R s m args below meth c H locs cells slots Q (F0 m pc ls (.int (iI a) :: rest)) := by
  have hb' := in0
  exact lv_if_lt hx hb hdg ht (fun h => kt ((iI_lt ha hb').mp h)) (fun h => kf (Int.le_of_not_gt (fun q => h ((iI_lt ha hb').mpr q))))
theorem pg_if_ge (hx : p.tables.exec = Jvm.exec) (hb : c.code = cc) {a : Int} {off : Int} {tgt : Nat} (hdg : decode cc pc = .ok (.ifCond .ge off, 3)) (ht : (pc : Int) + off = (tgt : Int)) (ha : inI a) (kt : 0 ≤ a → W p l e R s m args below meth c H locs cells slots Q (F0 m tgt ls rest)) (kf : a < 0 → W p l e R s m args below meth c H locs cells slots Q (F0 m (pc + 3) ls rest)) : W p l e R s m args below meth c H locs cells slots Q (F0 m pc ls (.int (iI a) :: rest)) := by
  have hb' := in0
  exact lv_if_ge hx hb hdg ht (fun h => kt ((iI_le hb' ha).mp h)) (fun h => kf (Int.lt_of_not_ge (fun q => h ((iI_le hb' ha).mpr q))))
theorem pg_if_gt (hx : p.tables.exec = Jvm.exec) (hb : c.code = cc) {a : Int} {off : Int} {tgt : Nat} (hdg : decode cc pc = .ok (.ifCond .gt off, 3)) (ht : (pc : Int) + off = (tgt : Int)) (ha : inI a) (kt : 0 < a → W p l e R s m args below meth c H locs cells slots Q (F0 m tgt ls rest)) (kf : a ≤ 0 → W p l e R s m args below meth c H locs cells slots Q (F0 m (pc + 3) ls rest)) : W p l e R s m args below meth c H locs cells slots Q (F0 m pc ls (.int (iI a) :: rest)) := by
  have hb' := in0
  exact lv_if_gt hx hb hdg ht (fun h => kt ((iI_lt hb' ha).mp h)) (fun h => kf (Int.le_of_not_gt (fun q => h ((iI_lt hb' ha).mpr q))))
theorem pg_if_le (hx : p.tables.exec = Jvm.exec) (hb : c.code = cc) {a : Int} {off : Int} {tgt : Nat} (hdg : decode cc pc = .ok (.ifCond .le off, 3)) (ht : (pc : Int) + off = (tgt : Int)) (ha : inI a) (kt : a ≤ 0 → W p l e R s m args below meth c H locs cells slots Q (F0 m tgt ls rest)) (kf : 0 < a → W p l e R s m args below meth c H locs cells slots Q (F0 m (pc + 3) ls rest)) : W p l e R s m args below meth c H locs cells slots Q (F0 m pc ls (.int (iI a) :: rest)) := by
  have hb' := in0
  exact lv_if_le hx hb hdg ht (fun h => kt ((iI_le ha hb').mp h)) (fun h => kf (Int.lt_of_not_ge (fun q => h ((iI_le ha hb').mpr q))))
section
variable {D : va_G} {cl : List vw_C} {tys : List (ClassId × FieldType)} {ws : va_W} {a : Nat} {A : Nat → Prop} {H0 : Heap}
theorem pg_iald (hx : p.tables.exec = Jvm.exec) (hb : c.code = cc) (hK : va_K D cl tys s) (hP : va_P D cl ws H) (q0 t0 : Nat) {cA : ClassId} {n : Nat} {f : Nat → Nat} (ha : ws[q0]? = some (a, .inl (cA, n, .inl (fI f)))) (ht : tys[t0]? = some (cA, .int)) {z : Int} (i : Nat) (hz : z = i) (hi : i < n) (hn : n < 2 ^ 31) (hdg : decode cc pc = .ok (.iaload, 1))
    (kk : W p l e R s m args below meth c H locs cells slots Q (F0 m (pc + 1) ls (.int (iI (f i : Int)) :: rest))) : W p l e R s m args below meth c H locs cells slots Q (F0 m pc ls (.int (iI z) :: .ref a :: rest)) := by
  subst hz
  refine va_iald hx hb hK hP q0 t0 ha ht (iI_in hi hn) hdg ?_
  rw [iI_clamp (by omega)]
  exact kk
theorem pg_zald (hx : p.tables.exec = Jvm.exec) (hb : c.code = cc) (hK : va_K D cl tys s) (hP : va_P D cl ws H) (q0 t0 : Nat) {cA : ClassId} {n : Nat} {f : Nat → Nat} (ha : ws[q0]? = some (a, .inl (cA, n, .inl (fI f)))) (ht : tys[t0]? = some (cA, .boolean)) {z : Int} (i : Nat) (hz : z = i) (hi : i < n) (hn : n < 2 ^ 31) (hdg : decode cc pc = .ok (.baload, 1))
    (kk : W p l e R s m args below meth c H locs cells slots Q (F0 m (pc + 1) ls (.int (iI (f i : Int)) :: rest))) : W p l e R s m args below meth c H locs cells slots Q (F0 m pc ls (.int (iI z) :: .ref a :: rest)) := by
  subst hz
  refine va_zald hx hb hK hP q0 t0 ha ht (iI_in hi hn) hdg ?_
  rw [iI_clamp (by omega)]
  exact kk
theorem pg_iast (hx : p.tables.exec = Jvm.exec) (hb : c.code = cc) (hK : va_K D cl tys s) (hP : va_P D cl ws H) (hD : va_D A ws) (hS : va_S A H0 H locs) (q0 t0 : Nat) {cA : ClassId} {n : Nat} {f : Nat → Nat} (ha : ws[q0]? = some (a, .inl (cA, n, .inl (fI f)))) (ht : tys[t0]? = some (cA, .int)) {z y : Int} (i v : Nat) (hz : z = i) (hy : y = v) (hi : i < n) (hn : n < 2 ^ 31) (hdg : decode cc pc = .ok (.iastore, 1))
    (kk : ∀ (H1 : Heap) (locs1 : List Loc), va_P D cl (ws.set q0 (a, .inl (cA, n, .inl (fI (upN f i v))))) H1 → va_D A (ws.set q0 (a, .inl (cA, n, .inl (fI (upN f i v))))) → va_S A H0 H1 locs1 → W p l e R s m args below meth c H1 locs1 cells slots Q (F0 m (pc + 1) ls rest)) : W p l e R s m args below meth c H locs cells slots Q (F0 m pc ls (.int (iI y) :: .int (iI z) :: .ref a :: rest)) := by
  subst hz; subst hy
  refine va_iast hx hb hK hP hD hS q0 t0 ha ht (iI_in hi hn) hdg ?_
  rw [iI_clamp (by omega), upd_fI]
  exact kk
theorem vp_nar_b {v : Nat} (h : v ≤ 1) : vp_nar .boolean (iI (v : Int)) = iI (v : Int) := by
  have h2 : ∀ v, v < 2 → vp_nar .boolean (iI ((v : Nat) : Int)) = iI (v : Int) := by decide +kernel
  exact h2 v (by omega)
theorem pg_zast (hx : p.tables.exec = Jvm.exec) (hb : c.code = cc) (hK : va_K D cl tys s) (hP : va_P D cl ws H) (hD : va_D A ws) (hS : va_S A H0 H locs) (q0 t0 : Nat) {cA : ClassId} {n : Nat} {f : Nat → Nat} (ha : ws[q0]? = some (a, .inl (cA, n, .inl (fI f)))) (ht : tys[t0]? = some (cA, .boolean)) {z y : Int} (i v : Nat) (hz : z = i) (hy : y = v) (hv : v ≤ 1) (hi : i < n) (hn : n < 2 ^ 31) (hdg : decode cc pc = .ok (.bastore, 1))
    (kk : ∀ (H1 : Heap) (locs1 : List Loc), va_P D cl (ws.set q0 (a, .inl (cA, n, .inl (fI (upN f i v))))) H1 → va_D A (ws.set q0 (a, .inl (cA, n, .inl (fI (upN f i v))))) → va_S A H0 H1 locs1 → W p l e R s m args below meth c H1 locs1 cells slots Q (F0 m (pc + 1) ls rest)) : W p l e R s m args below meth c H locs cells slots Q (F0 m pc ls (.int (iI y) :: .int (iI z) :: .ref a :: rest)) := by
  subst hz; subst hy
  refine va_zast hx hb hK hP hD hS q0 t0 ha ht (iI_in hi hn) hdg ?_
  rw [iI_clamp (by omega), vp_nar_b hv, upd_fI]
  exact kk
end
end PGR
