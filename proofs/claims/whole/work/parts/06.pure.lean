/-! ===== whole numbers: the root digit by digit, the double's units, the triangle ===== -/
section PURE
/-- the greatest r with r * r ≤ n -/
def qs : Nat → Nat
  | 0 => 0
  | n + 1 => if (qs n + 1) * (qs n + 1) ≤ n + 1 then qs n + 1 else qs n
theorem qs_succ (n : Nat) : qs (n + 1) = if (qs n + 1) * (qs n + 1) ≤ n + 1 then qs n + 1 else qs n := rfl
theorem sq1 (a : Nat) : (a + 1) * (a + 1) = a * a + 2 * a + 1 := by simp only [Nat.add_mul, Nat.mul_add]; omega
theorem qs_spec : ∀ n : Nat, qs n * qs n ≤ n ∧ n < (qs n + 1) * (qs n + 1)
  | 0 => ⟨Nat.le_refl 0, Nat.zero_lt_one⟩
  | n + 1 => by
    obtain ⟨h1, h2⟩ := qs_spec n
    have e := sq1 (qs n + 1)
    rw [qs_succ]
    by_cases h : (qs n + 1) * (qs n + 1) ≤ n + 1
    · rw [if_pos h]; exact ⟨h, by omega⟩
    · rw [if_neg h]; exact ⟨by omega, by omega⟩
theorem qs_le (n : Nat) : qs n * qs n ≤ n := (qs_spec n).1
theorem qs_lt (n : Nat) : n < (qs n + 1) * (qs n + 1) := (qs_spec n).2
theorem qs_uniq {n r : Nat} (h1 : r * r ≤ n) (h2 : n < (r + 1) * (r + 1)) : qs n = r := by
  obtain ⟨a, b⟩ := qs_spec n
  rcases Nat.lt_trichotomy (qs n) r with h | h | h
  · have := Nat.mul_le_mul (show qs n + 1 ≤ r from h) (show qs n + 1 ≤ r from h); omega
  · exact h
  · have := Nat.mul_le_mul (show r + 1 ≤ qs n from h) (show r + 1 ≤ qs n from h); omega
theorem qs_below {n b : Nat} (h : n < b * b) : qs n < b := by
  rcases Nat.lt_or_ge (qs n) b with q | q
  · exact q
  · have := Nat.mul_le_mul q q; have := qs_le n; omega
theorem qs_above {n a : Nat} (h : a * a ≤ n) : a ≤ qs n := by
  rcases Nat.lt_or_ge (qs n) a with q | q
  · have := Nat.mul_le_mul (show qs n + 1 ≤ a from q) (show qs n + 1 ≤ a from q); have := qs_lt n; omega
  · exact q
theorem qs_dig (V d : Nat) (hd : d < 4) : (4 * qs V + 1 ≤ 4 * (V - qs V * qs V) + d → qs (4 * V + d) = 2 * qs V + 1 ∧ 4 * V + d - (2 * qs V + 1) * (2 * qs V + 1) = 4 * (V - qs V * qs V) + d - (4 * qs V + 1)) ∧
    (¬ 4 * qs V + 1 ≤ 4 * (V - qs V * qs V) + d → qs (4 * V + d) = 2 * qs V ∧ 4 * V + d - (2 * qs V) * (2 * qs V) = 4 * (V - qs V * qs V) + d) := by
  obtain ⟨a, b⟩ := qs_spec V
  generalize qs V = q at a b ⊢
  have e1 := sq1 q
  have e2 := sq1 (2 * q)
  have e3 := sq1 (2 * q + 1)
  have e4 : (2 * q) * (2 * q) = 4 * (q * q) := by rw [Nat.mul_mul_mul_comm]
  refine ⟨fun h => ?_, fun h => ?_⟩
  · refine ⟨qs_uniq (by omega) (by omega), by omega⟩
  · refine ⟨qs_uniq (by omega) (by omega), by omega⟩
theorem vd_step (N c i : Nat) : N * 4 ^ (i + 1) / 4 ^ c = 4 * (N * 4 ^ i / 4 ^ c) + N * 4 ^ (i + 1) / 4 ^ c % 4 := by
  have e : N * 4 ^ (i + 1) / 4 ^ c / 4 = N * 4 ^ i / 4 ^ c := by
    rw [Nat.div_div_eq_div_mul, Nat.pow_succ, ← Nat.mul_assoc, Nat.mul_div_mul_right _ _ (by decide : 0 < 4)]
  omega
theorem vd_in {N c i : Nat} (h : i + 1 ≤ c) : N * 4 ^ (i + 1) / 4 ^ c = N / 4 ^ (c - (i + 1)) := by
  have e : 4 ^ c = 4 ^ (c - (i + 1)) * 4 ^ (i + 1) := by rw [← Nat.pow_add]; congr 1; omega
  rw [e, Nat.mul_div_mul_right _ _ (Nat.pow_pos (by decide))]
theorem vd_out {N c i : Nat} (h : c ≤ i) : N * 4 ^ i / 4 ^ c = N * 4 ^ (i - c) := by
  have e : 4 ^ i = 4 ^ (i - c) * 4 ^ c := by rw [← Nat.pow_add]; congr 1; omega
  rw [e, ← Nat.mul_assoc, Nat.mul_div_cancel _ (Nat.pow_pos (by decide))]
theorem vd_out4 {N c i : Nat} (h : c ≤ i) : N * 4 ^ (i + 1) / 4 ^ c % 4 = 0 := by
  rw [vd_out (by omega), show i + 1 - c = (i - c) + 1 by omega, Nat.pow_succ, ← Nat.mul_assoc, Nat.mul_mod_left]
theorem vd_0 {N c : Nat} (h : N < 4 ^ c) : N * 4 ^ 0 / 4 ^ c = 0 := by
  rw [Nat.pow_zero, Nat.mul_one]; exact Nat.div_eq_of_lt h
theorem vd_le {N c i j : Nat} (h : i ≤ j) : N * 4 ^ i / 4 ^ c ≤ N * 4 ^ j / 4 ^ c :=
  Nat.div_le_div_right (Nat.mul_le_mul_left _ (Nat.pow_le_pow_right (by decide) h))
/-- the power of two that a root begins at -/
def pw (n : Nat) : Nat := Nat.log2 n / 2
theorem p4 (k : Nat) : 4 ^ k = 2 ^ (2 * k) := by rw [Nat.pow_mul]
theorem pw_le {n : Nat} (h : n ≠ 0) : 4 ^ pw n ≤ n := by
  rw [p4]; exact (Nat.le_log2 h).mp (by unfold pw; omega)
theorem pw_lt (n : Nat) : n < 4 ^ (pw n + 1) := by
  by_cases h : n = 0
  · subst h; exact Nat.pow_pos (by decide)
  · rw [p4]; exact (Nat.log2_lt h).mp (by unfold pw; omega)
theorem pw_uniq {n p : Nat} (h1 : 4 ^ p ≤ n) (h2 : n < 4 ^ (p + 1)) : pw n = p := by
  have h0 : n ≠ 0 := by have := Nat.pow_pos (n := p) (show 0 < 4 by decide); omega
  rw [p4] at h1 h2
  have a := (Nat.le_log2 h0).mpr h1
  have b := (Nat.log2_lt h0).mpr h2
  unfold pw; omega
theorem pw_mono {a b : Nat} (ha : a ≠ 0) (h : a ≤ b) : pw a ≤ pw b := by
  have hb : b ≠ 0 := by omega
  have h1 : 2 ^ a.log2 ≤ b := Nat.le_trans (Nat.log2_self_le ha) h
  have := (Nat.le_log2 hb).mpr h1
  unfold pw; omega
theorem pw_4 {n : Nat} (h : n ≠ 0) : pw (4 * n) = pw n + 1 := by
  refine pw_uniq ?_ ?_
  · have := pw_le h; rw [Nat.pow_succ]; omega
  · have := pw_lt n; rw [Nat.pow_succ]; omega
theorem pw_16 {n : Nat} (h : n ≠ 0) : pw (16 * n) = pw n + 2 := by
  have e : 16 * n = 4 * (4 * n) := by omega
  rw [e, pw_4 (by omega), pw_4 h]
theorem pw_small {n k : Nat} (h : n < 4 ^ (k + 1)) : pw n ≤ k := by
  by_cases h0 : n = 0
  · subst h0; exact Nat.zero_le _
  · have := pw_le h0
    have h2 : 4 ^ pw n < 4 ^ (k + 1) := Nat.lt_of_le_of_lt this h
    have := (Nat.pow_lt_pow_iff_right (by decide : 1 < 4)).mp h2
    omega
/-- the units of the double nearest to the root of M sixteenths -/
def un (M : Nat) : Nat := (qs (M * 4 ^ (53 - pw M)) + 1) / 2
/-- its bits -/
def bx (M : Nat) : Nat := if M = 0 then 0 else (1021 + pw M) * 2 ^ 52 + (un M - 2 ^ 52)
theorem un_spec {M : Nat} (h0 : M ≠ 0) (h : M < 2 ^ 20) : 2 ^ 52 ≤ un M ∧ un M < 2 ^ 53 ∧ (2 * un M - 1) * (2 * un M - 1) < M * 4 ^ (53 - pw M) ∧ M * 4 ^ (53 - pw M) < (2 * un M + 1) * (2 * un M + 1) := by
  have hp : pw M ≤ 9 := pw_small (by omega)
  have h1 := pw_le h0
  have h2 := pw_lt M
  have e4 : M * 4 ^ (53 - pw M) = 4 * (M * 4 ^ (52 - pw M)) := by
    rw [show 53 - pw M = (52 - pw M) + 1 by omega, Nat.pow_succ, ← Nat.mul_assoc, Nat.mul_comm]
  have lo : (2 ^ 53) * (2 ^ 53) ≤ M * 4 ^ (53 - pw M) := by
    have := Nat.mul_le_mul_right (4 ^ (53 - pw M)) h1
    rw [← Nat.pow_add, show pw M + (53 - pw M) = 53 by omega] at this
    exact Nat.le_trans (by decide) this
  have hi : M * 4 ^ (53 - pw M) < (2 ^ 54 - 1) * (2 ^ 54 - 1) := by
    have a : M * 4 ^ (53 - pw M) ≤ (4 ^ (pw M + 1) - 1) * 4 ^ (53 - pw M) := Nat.mul_le_mul_right _ (by omega)
    rw [Nat.sub_mul, ← Nat.pow_add, show pw M + 1 + (53 - pw M) = 54 by omega, Nat.one_mul] at a
    have b : 4 ^ 44 ≤ 4 ^ (53 - pw M) := Nat.pow_le_pow_right (by decide) (by omega)
    have c : (4 : Nat) ^ 54 - 4 ^ 44 < (2 ^ 54 - 1) * (2 ^ 54 - 1) := by decide
    omega
  have q1 := qs_above lo
  have q2 := qs_below hi
  have q3 := qs_le (M * 4 ^ (53 - pw M))
  have q4 := qs_lt (M * 4 ^ (53 - pw M))
  rw [e4] at q3 q4 q1 q2
  rw [e4]
  unfold un
  rw [e4]
  generalize M * 4 ^ (52 - pw M) = X at q1 q2 q3 q4 ⊢
  generalize qs (4 * X) = q at q1 q2 q3 q4 ⊢
  rcases Nat.mod_two_eq_zero_or_one q with hq | hq
  · obtain ⟨r, rfl⟩ : ∃ r, q = 2 * r := ⟨q / 2, by omega⟩
    have e : (2 * r + 1) / 2 = r := by omega
    rw [e]
    refine ⟨by omega, by omega, ?_, by omega⟩
    obtain ⟨t, ht⟩ : ∃ t, 2 * r = t + 1 := ⟨2 * r - 1, by omega⟩
    have e1 : 2 * r - 1 = t := by omega
    rw [e1]
    have := sq1 t
    rw [← ht] at this
    omega
  · obtain ⟨r, rfl⟩ : ∃ r, q = 2 * r + 1 := ⟨q / 2, by omega⟩
    have e : (2 * r + 1 + 1) / 2 = r + 1 := by omega
    rw [e]
    refine ⟨by omega, by omega, ?_, ?_⟩
    · have e1 : 2 * (r + 1) - 1 = 2 * r + 1 := by omega
      rw [e1]
      have := sq1 (2 * r)
      have e5 : (2 * r) * (2 * r) = 4 * (r * r) := by rw [Nat.mul_mul_mul_comm]
      omega
    · have e1 : 2 * (r + 1) + 1 = (2 * r + 1 + 1) + 1 := by omega
      rw [e1]
      have := sq1 (2 * r + 1 + 1)
      have := sq1 (2 * r + 1)
      omega
theorem un_close {M : Nat} (h0 : M ≠ 0) (h : M < 2 ^ 20) : (un M - 1) * (un M - 1) ≤ M * 4 ^ (52 - pw M) ∧ M * 4 ^ (52 - pw M) ≤ (un M + 1) * (un M + 1) := by
  obtain ⟨a1, a2, a3, a4⟩ := un_spec h0 h
  have hp : pw M ≤ 9 := pw_small (by omega)
  have e4 : M * 4 ^ (53 - pw M) = 4 * (M * 4 ^ (52 - pw M)) := by
    rw [show 53 - pw M = (52 - pw M) + 1 by omega, Nat.pow_succ, ← Nat.mul_assoc, Nat.mul_comm]
  rw [e4] at a3 a4
  generalize M * 4 ^ (52 - pw M) = X at a3 a4 ⊢
  obtain ⟨r, hr⟩ : ∃ r, un M = r + 1 := ⟨un M - 1, by omega⟩
  rw [hr] at a3 a4 ⊢
  have e1 : r + 1 - 1 = r := by omega
  have e2 : 2 * (r + 1) - 1 = 2 * r + 1 := by omega
  have e3 : 2 * (r + 1) + 1 = 2 * r + 1 + 1 + 1 := by omega
  rw [e1]
  rw [e2] at a3
  rw [e3] at a4
  have f1 := sq1 (2 * r)
  have f2 := sq1 (2 * r + 1)
  have f3 := sq1 (2 * r + 1 + 1)
  have f4 : (2 * r) * (2 * r) = 4 * (r * r) := by rw [Nat.mul_mul_mul_comm]
  have f5 := sq1 r
  have f6 := sq1 (r + 1)
  constructor <;> omega
/-- roots rise strictly with their numbers -/
theorem bx_rise {a : Nat} (h0 : a ≠ 0) (h : a < 2 ^ 15) : bx (16 * (a - 1)) < bx (16 * a) := by
  obtain ⟨b, rfl⟩ : ∃ b, a = b + 1 := ⟨a - 1, by omega⟩
  rw [Nat.add_sub_cancel]
  obtain ⟨a1, a2, a3, a4⟩ := un_spec (M := 16 * (b + 1)) (by omega) (by omega)
  have hp : pw (16 * (b + 1)) ≤ 9 := pw_small (by omega)
  unfold bx
  rw [if_neg (show ¬ 16 * (b + 1) = 0 by omega)]
  by_cases hb : b = 0
  · rw [if_pos (by omega)]; omega
  · rw [if_neg (by omega)]
    obtain ⟨b1, b2, b3, b4⟩ := un_spec (M := 16 * b) (by omega) (by omega)
    have hm := pw_mono (a := 16 * b) (b := 16 * (b + 1)) (by omega) (by omega)
    rcases Nat.lt_or_ge (pw (16 * b)) (pw (16 * (b + 1))) with hlt | hge
    · generalize pw (16 * b) = P at *
      generalize pw (16 * (b + 1)) = P' at *
      have : (1021 + P + 1) * 2 ^ 52 ≤ (1021 + P') * 2 ^ 52 := Nat.mul_le_mul_right _ (by omega)
      omega
    · have he : pw (16 * (b + 1)) = pw (16 * b) := by omega
      rw [he] at a3 a4 ⊢
      have hlt : un (16 * b) < un (16 * (b + 1)) := by
        rcases Nat.lt_or_ge (un (16 * b)) (un (16 * (b + 1))) with q | q
        · exact q
        · exfalso
          have hp2 : pw (16 * b) ≤ 9 := by omega
          have c1 : (2 * un (16 * (b + 1)) + 1) * (2 * un (16 * (b + 1)) + 1) ≤ (2 * un (16 * b) + 1) * (2 * un (16 * b) + 1) := Nat.mul_le_mul (by omega) (by omega)
          have c2 : 16 * (b + 1) * 4 ^ (53 - pw (16 * b)) = 16 * b * 4 ^ (53 - pw (16 * b)) + 16 * 4 ^ (53 - pw (16 * b)) := by rw [Nat.mul_add, Nat.add_mul]
          have c3 : 4 ^ 44 ≤ 4 ^ (53 - pw (16 * b)) := Nat.pow_le_pow_right (by decide) (by omega)
          obtain ⟨t, ht⟩ : ∃ t, 2 * un (16 * b) = t + 1 := ⟨2 * un (16 * b) - 1, by omega⟩
          have e1 : 2 * un (16 * b) - 1 = t := by omega
          rw [e1] at b3
          rw [ht] at c1
          have f1 := sq1 t
          have f2 := sq1 (t + 1)
          omega
      omega
/-- a way by a third point is not shorter by more than one: P, Q of two stretches, the roots' bounds -/
theorem tri_core {N1 N2 N3 g1 g2 g3 D : Int} (hg1 : 0 ≤ g1) (hg2 : 0 ≤ g2) (hN : N3 = N1 + N2 + 2 * D) (hcs : D * D ≤ N1 * N2)
    (h1 : 4 * N1 < (2 * g1 + 1) * (2 * g1 + 1)) (h2 : 4 * N2 < (2 * g2 + 1) * (2 * g2 + 1)) (h3 : g3 = 0 ∨ (2 * g3 - 1) * (2 * g3 - 1) ≤ 4 * N3) (hN1 : 0 ≤ N1) (hN2 : 0 ≤ N2) : g3 ≤ g1 + g2 + 1 := by
  rcases h3 with h3 | h3
  · omega
  · apply Int.le_of_lt_add_one
    apply Int.lt_of_not_ge
    intro hge
    have hP : 0 ≤ 2 * g1 + 1 := by omega
    have hQ : 0 ≤ 2 * g2 + 1 := by omega
    generalize hp : 2 * g1 + 1 = P at *
    generalize hq : 2 * g2 + 1 = Q at *
    have hR : P + Q + 1 ≤ 2 * g3 - 1 := by omega
    have hPQ : 0 ≤ P * Q := Int.mul_nonneg hP hQ
    -- D ≤ P*Q/4: (4 D)^2 ≤ 16 N1 N2 ≤ (P Q)^2
    have hD : 4 * D ≤ P * Q := by
      apply Int.le_of_not_gt
      intro hlt
      have k1 : (P * Q) * (P * Q) < (4 * D) * (4 * D) := by
        have a : (P * Q) * (P * Q) ≤ (P * Q) * (4 * D) := Int.mul_le_mul_of_nonneg_left (by omega) hPQ
        have b : (P * Q) * (4 * D) < (4 * D) * (4 * D) := Int.mul_lt_mul_of_pos_right hlt (by omega)
        omega
      have k2 : (4 * N1) * (4 * N2) ≤ (P * P) * (Q * Q) := Int.mul_le_mul (by omega) (by omega) (by omega) (Int.mul_nonneg hP hP)
      have k3 : (4 * D) * (4 * D) = 16 * (D * D) := by grind
      have k4 : (4 * N1) * (4 * N2) = 16 * (N1 * N2) := by grind
      have k5 : (P * P) * (Q * Q) = (P * Q) * (P * Q) := by grind
      omega
    have m1 : (P + Q + 1) * (P + Q + 1) ≤ (2 * g3 - 1) * (2 * g3 - 1) := Int.mul_le_mul hR hR (by omega) (by omega)
    have m2 : (P + Q + 1) * (P + Q + 1) = P * P + Q * Q + 2 * (P * Q) + 2 * P + 2 * Q + 1 := by grind
    omega
theorem cs_core (a b c d : Int) : (a * c + b * d) * (a * c + b * d) ≤ (a * a + b * b) * (c * c + d * d) := by
  have h : (a * a + b * b) * (c * c + d * d) = (a * c + b * d) * (a * c + b * d) + (a * d - b * c) * (a * d - b * c) := by grind
  have h2 : 0 ≤ (a * d - b * c) * (a * d - b * c) := by
    rcases Int.le_total 0 (a * d - b * c) with q | q
    · exact Int.mul_nonneg q q
    · exact Int.mul_nonneg_of_nonpos_of_nonpos q q
  omega
end PURE
