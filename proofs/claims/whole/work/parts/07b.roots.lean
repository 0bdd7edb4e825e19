/-! ===== facts for the walks of the root's loops ===== -/
section RD
theorem rd_b {V d r : Nat} (hV : V < 2 ^ 110) (hd : d = qs V) (hr : r = V - qs V * qs V) : d < 2 ^ 55 ∧ r ≤ 2 * d := by
  have h1 := qs_lt V
  have h2 := qs_below (n := V) (b := 2 ^ 55) (by omega)
  have h3 := sq1 (qs V)
  omega
theorem rd_next {N c i d r dg : Nat} (hd : d = qs (N * 4 ^ i / 4 ^ c)) (hr : r = N * 4 ^ i / 4 ^ c - qs (N * 4 ^ i / 4 ^ c) * qs (N * 4 ^ i / 4 ^ c)) (hg : dg = N * 4 ^ (i + 1) / 4 ^ c % 4) :
    (4 * d + 1 ≤ 4 * r + dg → 2 * d + 1 = qs (N * 4 ^ (i + 1) / 4 ^ c) ∧ 4 * r + dg - (4 * d + 1) = N * 4 ^ (i + 1) / 4 ^ c - qs (N * 4 ^ (i + 1) / 4 ^ c) * qs (N * 4 ^ (i + 1) / 4 ^ c)) ∧
    (4 * r + dg < 4 * d + 1 → 2 * d = qs (N * 4 ^ (i + 1) / 4 ^ c) ∧ 4 * r + dg = N * 4 ^ (i + 1) / 4 ^ c - qs (N * 4 ^ (i + 1) / 4 ^ c) * qs (N * 4 ^ (i + 1) / 4 ^ c)) := by
  have hs := vd_step N c i
  have hlt : dg < 4 := by omega
  rw [← hg] at hs
  have q := qs_dig (N * 4 ^ i / 4 ^ c) dg hlt
  rw [← hs, ← hr, ← hd] at q
  refine ⟨fun h => ?_, fun h => ?_⟩
  · obtain ⟨a, b⟩ := q.1 h
    rw [a]; exact ⟨rfl, b.symm⟩
  · obtain ⟨a, b⟩ := q.2 (by omega)
    rw [a]; exact ⟨rfl, b.symm⟩
theorem rd_dig {N c i : Nat} (h : i < c) : N / 2 ^ (2 * (c - 1 - i)) % 4 = N * 4 ^ (i + 1) / 4 ^ c % 4 := by
  rw [vd_in (by omega), p4, show c - (i + 1) = c - 1 - i by omega]
theorem rd_V {N P i : Nat} (hb : N * 4 ^ P < 2 ^ 110) {c : Nat} (hi : i ≤ c + P) : N * 4 ^ i / 4 ^ c < 2 ^ 110 := by
  have h1 := vd_le (N := N) (c := c) hi
  rw [vd_out (N := N) (c := c) (i := c + P) (by omega), show c + P - c = P by omega] at h1
  omega
theorem rd_end {N P i d : Nat} {c : Nat} (hi : i ≤ c + P) (hge : c + P ≤ i) (hd : d = qs (N * 4 ^ i / 4 ^ c)) : qs (N * 4 ^ P) = d := by
  have e : i = c + P := by omega
  subst e
  rw [hd, vd_out (by omega), show c + P - c = P by omega]
theorem rd_ok {M : Nat} (h : M < 2 ^ 20) : M * 4 ^ (53 - pw M) < 2 ^ 110 := by
  have hp : pw M ≤ 9 := pw_small (by omega)
  have h2 := pw_lt M
  have a : M * 4 ^ (53 - pw M) ≤ 4 ^ (pw M + 1) * 4 ^ (53 - pw M) := Nat.mul_le_mul_right _ (by omega)
  rw [← Nat.pow_add, show pw M + 1 + (53 - pw M) = 54 by omega] at a
  omega
theorem bx_eq {M : Nat} (h : M ≠ 0) : bx M = (1021 + pw M) * 2 ^ 52 + (un M - 2 ^ 52) := by unfold bx; rw [if_neg h]
theorem bx_0 : bx 0 = 0 := rfl
theorem bx_4 {M : Nat} (h0 : M ≠ 0) (h : M < 2 ^ 18) : bx (4 * M) = bx M + 2 ^ 52 := by
  have e : un (4 * M) = un M := by
    have hp : pw M ≤ 9 := pw_small (by omega)
    unfold un
    rw [pw_4 h0, show 53 - pw M = (53 - (pw M + 1)) + 1 by omega, Nat.pow_succ, ← Nat.mul_assoc, Nat.mul_comm 4 M, Nat.mul_assoc M 4, Nat.mul_comm 4, ← Nat.mul_assoc]
  rw [bx_eq h0, bx_eq (by omega), e, pw_4 h0]
  omega
theorem and3 (a : Nat) : a &&& 3 = a % 4 := Nat.and_two_pow_sub_one_eq_mod a 2
/-- the square of a number by its two parts of 27 bits -/
theorem csq (U : Nat) : U * U = ((U / 2 ^ 27) * (U / 2 ^ 27) + 2 * (U / 2 ^ 27) * (U % 2 ^ 27) / 2 ^ 27 + ((U % 2 ^ 27) * (U % 2 ^ 27) + 2 * (U / 2 ^ 27) * (U % 2 ^ 27) % 2 ^ 27 * 2 ^ 27) / 2 ^ 54) * 2 ^ 54 + ((U % 2 ^ 27) * (U % 2 ^ 27) + 2 * (U / 2 ^ 27) * (U % 2 ^ 27) % 2 ^ 27 * 2 ^ 27) % 2 ^ 54 := by
  obtain ⟨a, ha⟩ : ∃ a, a = U / 2 ^ 27 := ⟨_, rfl⟩
  obtain ⟨b, hb⟩ : ∃ b, b = U % 2 ^ 27 := ⟨_, rfl⟩
  have hU : U = a * 2 ^ 27 + b := by omega
  rw [← ha, ← hb]
  have e : U * U = (a * a) * 2 ^ 54 + (2 * a * b) * 2 ^ 27 + b * b := by rw [hU]; grind
  rw [e]
  generalize 2 * a * b = x
  generalize b * b = y
  generalize a * a = z
  omega
end RD
