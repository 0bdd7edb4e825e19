/-! ===== facts for the walks of the reference ===== -/
section MD
theorem pq {N k : Nat} (h1 : 2 ^ k ≤ qs N) (h2 : qs N < 2 ^ (k + 1)) : pw N = k := by
  have a := qs_le N
  have b := qs_lt N
  refine pw_uniq ?_ ?_
  · rw [p4, Nat.two_mul, Nat.pow_add]
    exact Nat.le_trans (Nat.mul_le_mul h1 h1) a
  · rw [p4, Nat.two_mul, Nat.pow_add]
    exact Nat.lt_of_lt_of_le b (Nat.mul_le_mul h2 h2)
theorem un_4 {N : Nat} (h0 : N ≠ 0) (h : N < 2 ^ 18) : un (4 * N) = (qs (N * 4 ^ (53 - pw N)) + 1) / 2 := by
  have hp : pw N ≤ 9 := pw_small (by omega)
  unfold un
  rw [pw_4 h0, show 53 - pw N = (53 - (pw N + 1)) + 1 by omega, Nat.pow_succ, ← Nat.mul_assoc, Nat.mul_comm 4 N, Nat.mul_assoc N 4, Nat.mul_comm 4, ← Nat.mul_assoc]
theorem un_16 {N : Nat} (h0 : N ≠ 0) (h : N < 2 ^ 16) : un (16 * N) = (qs (N * 4 ^ (53 - pw N)) + 1) / 2 := by
  have hp : pw N ≤ 7 := pw_small (by omega)
  rw [show 16 * N = 4 * (4 * N) by omega, un_4 (N := 4 * N) (by omega) (by omega), ← un_4 h0 (by omega)]
  rfl
theorem bits_16 {N : Nat} (h0 : N ≠ 0) (h : N < 2 ^ 15) : bx (16 * N) = (1023 + pw N) * 2 ^ 52 + ((qs (N * 4 ^ (53 - pw N)) + 1) / 2 - 2 ^ 52) := by
  rw [bx_eq (by omega), un_16 h0 (by omega), pw_16 h0, show 1021 + (pw N + 2) = 1023 + pw N by omega]
theorem bits_4 {N : Nat} (h0 : N ≠ 0) (h : N < 2 ^ 15) : bx (4 * N) = (1022 + pw N) * 2 ^ 52 + ((qs (N * 4 ^ (53 - pw N)) + 1) / 2 - 2 ^ 52) := by
  rw [bx_eq (by omega), un_4 h0 (by omega), pw_4 h0, show 1021 + (pw N + 1) = 1022 + pw N by omega]
theorem gr_16 (N : Nat) : gr (16 * N) = (qs (N * 4 ^ 17) + 1) / 2 := by
  unfold gr
  rw [show 16 * N * 4 ^ 15 = N * 4 ^ 17 by omega]
theorem gr_4 (N : Nat) : gr (4 * N) = (qs (N * 4 ^ 16) + 1) / 2 := by
  unfold gr
  rw [show 4 * N * 4 ^ 15 = N * 4 ^ 16 by omega]
theorem gr_1 (N : Nat) : gr N = (qs (N * 4 ^ 15) + 1) / 2 := rfl
/-- the sum of two legs' squares, whole -/
def s2 (S : pgS) (a b : Nat) : Nat := (dA S a b * dA S a b + dU S a b * dU S a b).toNat
theorem s2_int {S : pgS} (h : pgOk S) (a b : Nat) : ((s2 S a b : Nat) : Int) = dA S a b * dA S a b + dU S a b * dU S a b := by
  have q := sq_sum h a b
  unfold s2; omega
theorem s2_lt {S : pgS} (h : pgOk S) (a b : Nat) : s2 S a b < 2 ^ 15 := by
  have q := sq_sum h a b
  unfold s2; omega
theorem gN_0 {S : pgS} (hw : sW S = 0) (a b : Nat) : gN S a b = (qs (s2 S a b * 4 ^ 15) + 1) / 2 := by
  show (qs (sqw S (sW S) a b * 4 ^ 15) + 1) / 2 = _
  unfold sqw s2
  rw [hw, if_pos rfl, Nat.one_mul]
theorem gN_1 {S : pgS} (hw : sW S ≠ 0) (a b : Nat) : gN S a b = (qs (s2 S a b * 4 ^ 16) + 1) / 2 := by
  show (qs (sqw S (sW S) a b * 4 ^ 15) + 1) / 2 = _
  unfold sqw s2
  rw [if_neg hw]
  generalize (dA S a b * dA S a b + dU S a b * dU S a b).toNat = z
  rw [show 4 * z * 4 ^ 15 = z * 4 ^ 16 by omega]
theorem ne_lt {N : Nat} (h : N < 2 ^ 16) {P : Nat} (hP : P ≤ 17) : (qs (N * 4 ^ P) + 1) / 2 < 2 ^ 26 := by
  have h1 : N * 4 ^ P ≤ N * 4 ^ 17 := Nat.mul_le_mul_left _ (Nat.pow_le_pow_right (by decide) hP)
  have := qs_below (n := N * 4 ^ P) (b := 2 ^ 26 - 2) (by omega)
  omega
end MD
