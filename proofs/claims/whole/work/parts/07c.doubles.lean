/-! ===== doubles by their bits: e the exponent's field, u the units ===== -/
section DBL
def dN (e u : Nat) : Nat := e * 2 ^ 52 + (u - 2 ^ 52)
def dB (e u : Nat) : UInt64 := UInt64.ofNat (dN e u)
theorem dN_lt {e u : Nat} (he : e ≤ 2046) (h2 : u < 2 ^ 53) : dN e u < 2 ^ 64 := by unfold dN; omega
theorem dB_nat {e u : Nat} (he : e ≤ 2046) (h2 : u < 2 ^ 53) : (dB e u).toNat = dN e u := by
  unfold dB
  rw [UInt64.toNat_ofNat']
  exact Nat.mod_eq_of_lt (dN_lt he h2)
theorem b64_tails : FP.Core.b64.tails = 2 ^ 52 := by decide
theorem b64_exps : FP.Core.b64.exps = 2048 := by decide
theorem b64_qmin : FP.Core.b64.qmin = -1074 := by decide
theorem b64_qmax : FP.Core.b64.qmax = 971 := by decide
theorem b64_p : FP.Core.b64.p = 53 := rfl
theorem dec_dN {e u : Nat} (he0 : 1 ≤ e) (he : e ≤ 2046) (h1 : 2 ^ 52 ≤ u) (h2 : u < 2 ^ 53) : FP.Core.decode FP.Core.b64 (dN e u) = .fin false u ((e : Int) - 1075) := by
  have a1 : FP.Core.fieldE FP.Core.b64 (dN e u) = e := by unfold FP.Core.fieldE dN; rw [b64_tails, b64_exps]; omega
  have a2 : FP.Core.fieldT FP.Core.b64 (dN e u) = u - 2 ^ 52 := by unfold FP.Core.fieldT dN; rw [b64_tails]; omega
  have a3 : FP.Core.fieldS FP.Core.b64 (dN e u) = false := by
    unfold FP.Core.fieldS dN; rw [b64_tails, b64_exps]
    rw [show (e * 2 ^ 52 + (u - 2 ^ 52)) / 2 ^ 52 / 2048 % 2 = 0 by omega]; rfl
  unfold FP.Core.decode
  rw [a1, a2, a3, b64_exps, if_neg (by omega), if_neg (by omega), b64_tails, b64_qmin]
  rw [show 2 ^ 52 + (u - 2 ^ 52) = u by omega, show (-1074 : Int) + ((e : Int) - 1) = (e : Int) - 1075 by omega]
theorem enc_fin {u : Nat} {q : Int} (hq0 : -1074 ≤ q) (h1 : 2 ^ 52 ≤ u) : FP.Core.encode FP.Core.b64 (.fin false u q) = dN ((q + 1075).toNat) u := by
  unfold FP.Core.encode
  show (if u < FP.Core.b64.tails then _ else _) = _
  rw [b64_tails, if_neg (by omega), b64_qmin]
  unfold FP.Core.assemble dN
  rw [b64_exps, b64_tails]
  rw [show (q - -1074).toNat + 1 = (q + 1075).toNat by omega]
  simp
theorem near_mul {u d : Nat} (hd : 0 < d) : FP.Core.nearest (u * d) d = u := by
  unfold FP.Core.nearest
  rw [Nat.mul_mod_left, if_pos (by omega), Nat.mul_div_cancel _ hd]
theorem log2_52 {u : Nat} (h1 : 2 ^ 52 ≤ u) (h2 : u < 2 ^ 53) : u.log2 = 52 := (Nat.log2_eq_iff (by omega)).mpr ⟨h1, h2⟩
/-- u units over 2^52, times 2^e: it is u at the exponent e - 52 -/
theorem rr_div {u : Nat} {e : Int} (h1 : 2 ^ 52 ≤ u) (h2 : u < 2 ^ 53) (he0 : -1074 ≤ e - 52) (he1 : e - 52 ≤ 971) : FP.Core.roundRatio FP.Core.b64 false u (2 ^ 52) e = .fin false u (e - 52) := by
  have hl : FP.Core.leading u (2 ^ 52) = 0 := by
    unfold FP.Core.leading
    simp only [log2_52 h1 h2, log2_52 (u := 2 ^ 52) (by omega) (by omega)]
    rw [if_pos (by simp; omega)]
    rfl
  have hq : FP.Core.quantum FP.Core.b64 u (2 ^ 52) e = e - 52 := by
    unfold FP.Core.quantum
    rw [hl, b64_qmin, b64_p]
    simp only [Int.max_def]
    split <;> omega
  unfold FP.Core.roundRatio
  rw [if_neg (by omega), hq]
  unfold FP.Core.roundAt FP.Core.unitsNum FP.Core.unitsDen
  rw [show (e - (e - 52)).toNat = 52 by omega, show ((e - 52) - e).toNat = 0 by omega, Nat.pow_zero, Nat.mul_one, near_mul (by decide)]
  unfold FP.Core.settle FP.Core.bound
  rw [b64_p, if_pos h2, b64_qmax, if_pos he1]
theorem quo_fin {u d : Nat} {q r : Int} (hd : d ≠ 0) : FP.Core.quotient FP.Core.b64 (.fin false u q) (.fin false d r) = FP.Core.roundRatio FP.Core.b64 false u d (q - r) := by
  show (if d = 0 then (if u = 0 then FP.Core.Datum.nan else FP.Core.Datum.inf (false != false)) else FP.Core.roundRatio FP.Core.b64 (false != false) u d (q - r)) = _
  rw [if_neg hd]
  rfl
theorem ddiv_D {e k u : Nat} (h1 : 2 ^ 52 ≤ u) (h2 : u < 2 ^ 53) (he : e ≤ 2046) (hk : 1023 + k ≤ 2046) (hek : k + 1 ≤ e) : FP.ddiv (dB e u) (dB (1023 + k) (2 ^ 52)) = dB (e - k) u := by
  unfold FP.ddiv FP.Core.ddiv FP.Core.div
  rw [dB_nat he h2, dB_nat hk (by decide), dec_dN (by omega) he h1 h2, dec_dN (by omega) hk (by decide) (by decide)]
  rw [quo_fin (by decide), rr_div h1 h2 (by omega) (by omega), enc_fin (by omega) h1]
  unfold dB
  rw [show ((e : Int) - 1075 - (((1023 + k : Nat) : Int) - 1075) - 52 + 1075).toNat = e - k by omega]
theorem l2d_u {u : Nat} (h1 : 2 ^ 52 ≤ u) (h2 : u < 2 ^ 53) : FP.l2d (lI (u : Int)) = dB 1075 u := by
  unfold FP.l2d FP.Core.l2d FP.Core.fromInt
  rw [lI_toInt ⟨by omega, by omega⟩]
  have e1 : FP.Core.ofInt (u : Int) = .fin false u 0 := by
    unfold FP.Core.ofInt
    rw [show decide ((u : Int) < 0) = false by simp]
    simp
  rw [e1]
  have hl : FP.Core.leading u 1 = 52 := by
    unfold FP.Core.leading
    simp only [log2_52 h1 h2, show Nat.log2 1 = 0 by decide]
    rw [if_pos (by simp; omega)]
    rfl
  have hq : FP.Core.quantum FP.Core.b64 u 1 0 = 0 := by
    unfold FP.Core.quantum
    rw [hl, b64_qmin, b64_p]
    decide
  have hr : FP.Core.round FP.Core.b64 (.fin false u 0) = .fin false u 0 := by
    show FP.Core.roundRatio FP.Core.b64 false u 1 0 = _
    unfold FP.Core.roundRatio
    rw [if_neg (by omega), hq]
    unfold FP.Core.roundAt FP.Core.unitsNum FP.Core.unitsDen
    rw [show ((0 : Int) - 0).toNat = 0 from rfl, Nat.pow_zero, Nat.mul_one]
    have := near_mul (u := u) (d := 1) (by decide)
    rw [Nat.mul_one] at this
    rw [this]
    unfold FP.Core.settle FP.Core.bound
    rw [b64_p, if_pos h2, b64_qmax, if_pos (by decide)]
  rw [hr, enc_fin (by decide) h1]
  rfl
theorem l2d_2 : ∀ k : Nat, k < 11 → FP.l2d (lI ((2 ^ (45 + k) : Nat) : Int)) = dB (1023 + (45 + k)) (2 ^ 52) := by decide +kernel
theorem d_two : FP.l2d (lI 2) = dB 1024 (2 ^ 52) := by decide +kernel
theorem dcmp_D {e e' u u' : Nat} (h1 : 2 ^ 52 ≤ u) (h2 : u < 2 ^ 53) (h3 : 2 ^ 52 ≤ u') (h4 : u' < 2 ^ 53) (he0 : 1 ≤ e) (he : e ≤ 2046) (he0' : 1 ≤ e') (he' : e' ≤ 2046) (h : dN e' u' < dN e u) : FP.dcmp (dB e u) (dB e' u') = some .gt := by
  unfold FP.dcmp FP.Core.dcmp FP.Core.cmp
  rw [dB_nat he h2, dB_nat he' h4, dec_dN he0 he h1 h2, dec_dN he0' he' h3 h4]
  unfold FP.Core.order FP.Core.signed FP.Core.inUnits
  simp only [Option.some.injEq, Bool.false_eq_true, if_false]
  rw [Int.compare_eq_gt]
  unfold dN at h
  by_cases hee : e = e'
  · subst hee
    have : u' < u := by omega
    rw [Int.min_self, show ((e : Int) - 1075 - (e - 1075)).toNat = 0 by omega]
    omega
  · have hlt : e' < e := by omega
    have hm : min ((e : Int) - 1075) ((e' : Int) - 1075) = (e' : Int) - 1075 := by omega
    rw [hm, show ((e' : Int) - 1075 - ((e' : Int) - 1075)).toNat = 0 by omega]
    obtain ⟨j, hj⟩ : ∃ j, ((e : Int) - 1075 - ((e' : Int) - 1075)).toNat = j + 1 := ⟨e - e' - 1, by omega⟩
    rw [hj, Nat.pow_succ, Nat.pow_zero]
    have h9 : 1 ≤ 2 ^ j := Nat.pow_pos (by decide)
    have h8 : u * 1 ≤ u * 2 ^ j := Nat.mul_le_mul_left u h9
    have h7 : u * (2 ^ j * 2) = 2 * (u * 2 ^ j) := by rw [← Nat.mul_assoc, Nat.mul_comm]
    omega
theorem dcmp_self {e u : Nat} (h1 : 2 ^ 52 ≤ u) (h2 : u < 2 ^ 53) (he0 : 1 ≤ e) (he : e ≤ 2046) : FP.dcmp (dB e u) (dB e u) = some .eq := by
  unfold FP.dcmp FP.Core.dcmp FP.Core.cmp
  rw [dB_nat he h2, dec_dN he0 he h1 h2]
  unfold FP.Core.order
  simp
end DBL
section DBL2
theorem vf_dB {e u : Nat} (he : e ≤ 2046) (h1 : 2 ^ 52 ≤ u) (h2 : u < 2 ^ 53) : vf_n64 (dB e u) := by
  unfold vf_n64
  rw [UInt64.le_iff_toNat_le, UInt64.toNat_and, dB_nat he h2]
  have e1 : (0x7fffffffffffffff : UInt64).toNat = 2 ^ 63 - 1 := by decide
  have e2 : (0x7ff0000000000000 : UInt64).toNat = 2047 * 2 ^ 52 := by decide
  rw [e1, e2, Nat.and_two_pow_sub_one_eq_mod]
  unfold dN
  omega
/-- the double that bears the bits bx M -/
def dbl (M : Nat) : UInt64 := UInt64.ofNat (bx M)
theorem dbl_eq {M : Nat} (h0 : M ≠ 0) : dbl M = dB (1021 + pw M) (un M) := by
  unfold dbl dB dN
  rw [show bx M = (1021 + pw M) * 2 ^ 52 + (un M - 2 ^ 52) by unfold bx; rw [if_neg h0]]
theorem dbl_0 : dbl 0 = 0 := by decide
theorem dec_0 : FP.Core.decode FP.Core.b64 0 = .fin false 0 (-1074) := by decide
theorem dcmp_0 {e u : Nat} (h1 : 2 ^ 52 ≤ u) (h2 : u < 2 ^ 53) (he0 : 1 ≤ e) (he : e ≤ 2046) : FP.dcmp (dB e u) 0 = some .gt := by
  unfold FP.dcmp FP.Core.dcmp FP.Core.cmp
  rw [dB_nat he h2, dec_dN he0 he h1 h2, show (0 : UInt64).toNat = 0 from rfl, dec_0]
  unfold FP.Core.order FP.Core.signed FP.Core.inUnits
  simp only [Option.some.injEq, Bool.false_eq_true, if_false]
  rw [Int.compare_eq_gt, Nat.zero_mul]
  have h9 : 1 ≤ 2 ^ ((e : Int) - 1075 - min ((e : Int) - 1075) (-1074)).toNat := Nat.pow_pos (by decide)
  have h8 := Nat.mul_le_mul_left u h9
  omega
theorem dconst1_eq : (0x3ff0000000000000 : UInt64) = dB 1023 (2 ^ 52) := by decide
end DBL2
section DBL3
variable {p : Program} {l : Launch} {e : Env} {R : Room} {s : State} {m : MethodId} {args : Array Value} {below : List Frame} {meth : Method} {c : Code} {H : Heap} {locs : List Loc} {cells slots : Nat} {Q : State → Prop} {pc : Nat} {ls : Array Slot} {rest : List Value}
theorem pg_td {x y : UInt64} (h : x = y) (k : W p l e R s m args below meth c H locs cells slots Q (F0 m pc ls (.double y :: rest))) : W p l e R s m args below meth c H locs cells slots Q (F0 m pc ls (.double x :: rest)) := h ▸ k
theorem dbl_gt {a : Nat} (h0 : a ≠ 0) (h : a < 2 ^ 15) : FP.dcmp (dbl (16 * a)) (dbl (16 * (a - 1))) = some .gt := by
  have hr := bx_rise h0 h
  obtain ⟨a1, a2, -, -⟩ := un_spec (M := 16 * a) (by omega) (by omega)
  have hp : pw (16 * a) ≤ 9 := pw_small (by omega)
  rw [dbl_eq (M := 16 * a) (by omega)]
  by_cases hb : a - 1 = 0
  · rw [hb, Nat.mul_zero, dbl_0]
    exact dcmp_0 a1 a2 (by omega) (by omega)
  · obtain ⟨b1, b2, -, -⟩ := un_spec (M := 16 * (a - 1)) (by omega) (by omega)
    have hp2 : pw (16 * (a - 1)) ≤ 9 := pw_small (by omega)
    rw [dbl_eq (M := 16 * (a - 1)) (by omega)]
    refine dcmp_D a1 a2 b1 b2 (by omega) (by omega) (by omega) (by omega) ?_
    unfold bx at hr
    rw [if_neg (by omega), if_neg (by omega)] at hr
    exact hr
end DBL3
