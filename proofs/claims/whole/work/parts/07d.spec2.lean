/-! ===== what the loops answer ===== -/
section SPEC2
def cnt (S : pgS) : Nat → Nat
  | 0 => 0
  | i + 1 => cnt S i + sS S i
def nr (S : pgS) (k : Nat) : Nat → Int
  | 0 => -1
  | i + 1 => if i ≠ k ∧ sS S i = 1 ∧ (nr S k i = -1 ∨ gN S k i < gN S k (nr S k i).toNat) then (i : Int) else nr S k i
theorem nr_s (S : pgS) (k i : Nat) : nr S k (i + 1) = if i ≠ k ∧ sS S i = 1 ∧ (nr S k i = -1 ∨ gN S k i < gN S k (nr S k i).toNat) then (i : Int) else nr S k i := rfl
theorem cnt_s (S : pgS) (i : Nat) : cnt S (i + 1) = cnt S i + sS S i := rfl
theorem nr_b (S : pgS) (k : Nat) : ∀ i : Nat, -1 ≤ nr S k i ∧ nr S k i < i
  | 0 => ⟨by simp [nr], by simp [nr]⟩
  | i + 1 => by
    have h := nr_b S k i
    rw [nr_s]
    split <;> omega
theorem cnt_le {S : pgS} (h : ∀ i, sS S i ≤ 1) : ∀ i, cnt S i ≤ i
  | 0 => Nat.le_refl 0
  | i + 1 => by have := cnt_le h i; have := h i; rw [cnt_s]; omega
/-- no other peg stands just when one stands, if peg k does -/
theorem nr_cnt {S : pgS} (h : ∀ i, sS S i ≤ 1) {k : Nat} (hk : sS S k = 1) : ∀ i, (nr S k i = -1 → cnt S i = if k < i then 1 else 0) ∧ (nr S k i ≠ -1 → cnt S i ≥ (if k < i then 1 else 0) + 1)
  | 0 => ⟨fun _ => by simp [cnt], fun q => absurd rfl q⟩
  | i + 1 => by
    obtain ⟨h1, h2⟩ := nr_cnt h hk i
    have hb := nr_b S k i
    have hi := h i
    rw [nr_s, cnt_s]
    by_cases hik : i = k
    · subst hik
      rw [if_neg (by omega)]
      rw [if_neg (by omega)] at h1 h2
      rw [if_pos (by omega)]
      refine ⟨fun q => by rw [h1 q]; omega, fun q => by have := h2 q; omega⟩
    · have e : (if k < i + 1 then 1 else 0) = (if k < i then 1 else 0) := by by_cases q : k < i <;> simp [q] <;> omega
      rw [e]
      generalize (if k < i then 1 else 0) = w at h1 h2 ⊢
      by_cases hn : nr S k i = -1
      · by_cases hs : sS S i = 1
        · rw [if_pos ⟨hik, hs, Or.inl hn⟩]
          have := h1 hn
          exact ⟨fun q => by omega, fun _ => by omega⟩
        · rw [if_neg (fun q => hs q.2.1)]
          have := h1 hn
          exact ⟨fun _ => by omega, fun q => absurd hn q⟩
      · have := h2 hn
        split
        · exact ⟨fun q => by omega, fun _ => by omega⟩
        · exact ⟨fun q => absurd q hn, fun _ => by omega⟩
def rk1 (S : pgS) (g a : Nat) : Nat → Nat
  | 0 => 0
  | b + 1 => rk1 S g a b + (if a < b ∧ sS S a = 1 ∧ sS S b = 1 ∧ gN S a b < g then 1 else 0)
def rk (S : pgS) (g : Nat) : Nat → Nat
  | 0 => 0
  | a + 1 => rk S g a + rk1 S g a 12
theorem rk1_s (S : pgS) (g a b : Nat) : rk1 S g a (b + 1) = rk1 S g a b + (if a < b ∧ sS S a = 1 ∧ sS S b = 1 ∧ gN S a b < g then 1 else 0) := rfl
theorem rk_s (S : pgS) (g a : Nat) : rk S g (a + 1) = rk S g a + rk1 S g a 12 := rfl
theorem rk1_0 (S : pgS) (g a : Nat) : ∀ b, b ≤ a + 1 → rk1 S g a b = 0
  | 0, _ => rfl
  | b + 1, h => by rw [rk1_s, rk1_0 S g a b (by omega), if_neg (fun q => by have := q.1; omega)]
theorem rk1_y {S : pgS} {g a b : Nat} (h : a < b) (h1 : sS S a = 1) (h2 : sS S b = 1) (h3 : gN S a b < g) : rk1 S g a (b + 1) = rk1 S g a b + 1 := by rw [rk1_s, if_pos ⟨h, h1, h2, h3⟩]
theorem rk1_n {S : pgS} {g a b : Nat} (h : ¬ (sS S a = 1 ∧ sS S b = 1 ∧ gN S a b < g)) : rk1 S g a (b + 1) = rk1 S g a b := by rw [rk1_s, if_neg (fun q => h q.2)]; rfl
def nx (S : pgS) (k : Nat) : Nat := if k + 1 < sN S then k + 1 else 0
theorem nx_lt {S : pgS} (h : sN S ≤ 12) {k : Nat} : nx S k < 12 := by unfold nx; split <;> omega
def ar (S : pgS) : Nat → Nat
  | 0 => 0
  | k + 1 => ar S k + gN S (sR S k) (sR S (nx S k))
theorem ar_s (S : pgS) (k : Nat) : ar S (k + 1) = ar S k + gN S (sR S k) (sR S (nx S k)) := rfl
theorem ar_le {S : pgS} (h : pgOk S) : ∀ k, ar S k ≤ k * 2 ^ 26
  | 0 => Nat.le_refl 0
  | k + 1 => by have := ar_le h k; have := gN_lt h (sR S k) (sR S (nx S k)); rw [ar_s]; omega
def daT (S : pgS) (k : Nat) : Int := (sA S (sR S k) : Int) * (sU S (sR S (nx S k)) : Int) - (sA S (sR S (nx S k)) : Int) * (sU S (sR S k) : Int)
def da (S : pgS) : Nat → Int
  | 0 => 0
  | k + 1 => da S k + daT S k
theorem da_s (S : pgS) (k : Nat) : da S (k + 1) = da S k + daT S k := rfl
theorem mul90 {a b : Nat} (ha : a ≤ 90) (hb : b ≤ 90) : 0 ≤ (a : Int) * b ∧ (a : Int) * b ≤ 8100 := by
  have h := Nat.mul_le_mul ha hb
  have e : (a : Int) * b = ((a * b : Nat) : Int) := by simp
  rw [e]; omega
theorem da_b {S : pgS} (h : pgOk S) : ∀ k : Nat, -(8100 * (k : Int)) ≤ da S k ∧ da S k ≤ 8100 * (k : Int)
  | 0 => ⟨by simp [da], by simp [da]⟩
  | k + 1 => by
    have h1 := da_b h k
    have h2 := mul90 (h.2.1 (sR S k)) (h.2.2.1 (sR S (nx S k)))
    have h3 := mul90 (h.2.1 (sR S (nx S k))) (h.2.2.1 (sR S k))
    rw [da_s]; unfold daT; omega
def cs1 (S : pgS) : Nat → Int
  | 0 => 7
  | k + 1 => if sS S k = 1 then 31 * (31 * (31 * cs1 S k + k + 1) + (sU S k * 91 : Nat) + (sA S k : Nat)) + nr S k 12 else cs1 S k
def cs2 (S : pgS) : Nat → Int
  | 0 => cs1 S 12
  | k + 1 => 31 * cs2 S k + (sR S k : Nat)
theorem cs1_y {S : pgS} {k : Nat} (h : sS S k = 1) : cs1 S (k + 1) = 31 * (31 * (31 * cs1 S k + k + 1) + (sU S k * 91 : Nat) + (sA S k : Nat)) + nr S k 12 := by
  show (if sS S k = 1 then _ else _) = _
  rw [if_pos h]
theorem cs1_n {S : pgS} {k : Nat} (h : sS S k ≠ 1) : cs1 S (k + 1) = cs1 S k := by
  show (if sS S k = 1 then _ else _) = _
  rw [if_neg h]
theorem cs2_s (S : pgS) (k : Nat) : cs2 S (k + 1) = 31 * cs2 S k + (sR S k : Nat) := rfl
def csum (S : pgS) : Int := 31 * (31 * cs2 S (sN S) + (ar S (sN S) : Nat)) + (sW S : Nat)
theorem sq_any {S : pgS} (h : pgOk S) {w : Nat} (hw : w ≤ 1) (a b : Nat) {M : Nat} (hM : M = sqw S w a b) {x y : Int} (hxy : x * x + y * y = dA S a b * dA S a b + dU S a b * dU S a b) : ((w : Int) = 0 ∧ (M : Int) = x * x + y * y) ∨ ((w : Int) = 1 ∧ (M : Int) = 4 * (x * x + y * y)) := by
  rw [hxy, hM]
  rcases (sqw_spec h hw a b).1 with ⟨q1, q2⟩ | ⟨q1, q2⟩
  · exact Or.inl ⟨by omega, q2⟩
  · exact Or.inr ⟨by omega, q2⟩
theorem sqw_1 (S : pgS) (a b : Nat) : sqw S 1 a b = 4 * sqw S 0 a b := by
  unfold sqw
  rw [if_neg (by decide), if_pos rfl, Nat.one_mul]
theorem bx_lt {M : Nat} (h : M < 2 ^ 20) : bx M < 1031 * 2 ^ 52 := by
  by_cases h0 : M = 0
  · subst h0; decide
  · have hp : pw M ≤ 9 := pw_small (by omega)
    obtain ⟨a, b, -, -⟩ := un_spec h0 h
    rw [bx_eq h0]
    have : (1021 + pw M) * 2 ^ 52 ≤ 1030 * 2 ^ 52 := Nat.mul_le_mul_right _ (by omega)
    omega
theorem bx_pos {M : Nat} (h0 : M ≠ 0) : 2 ^ 52 ≤ bx M := by
  rw [bx_eq h0]
  generalize un M - 2 ^ 52 = f
  generalize pw M = P
  omega
theorem tw {M : Nat} (h : M < 2 ^ 18) : ((bx M : Int) = 0 ∧ (bx (4 * M) : Int) = 0) ∨ ((bx M : Int) ≠ 0 ∧ (bx (4 * M) : Int) = (bx M : Int) + 4503599627370496) := by
  by_cases h0 : M = 0
  · subst h0; exact Or.inl ⟨rfl, rfl⟩
  · have h1 : 4503599627370496 ≤ bx M := bx_pos h0
    have h2 : bx (4 * M) = bx M + 4503599627370496 := bx_4 h0 h
    rw [h2]
    generalize bx M = z at h1 ⊢
    exact Or.inr ⟨by omega, by omega⟩
theorem cmp_ex (x y : Nat) : ∃ r : Int, (x < y ∧ r = -1) ∨ (x = y ∧ r = 0) ∨ (y < x ∧ r = 1) := by
  rcases Nat.lt_trichotomy x y with h | h | h
  · exact ⟨-1, Or.inl ⟨h, rfl⟩⟩
  · exact ⟨0, Or.inr (Or.inl ⟨h, rfl⟩)⟩
  · exact ⟨1, Or.inr (Or.inr ⟨h, rfl⟩)⟩
theorem mk_pow {M i j : Nat} (h : i = 2 * j) : M * 2 ^ i * 2 ^ 54 = M * 4 ^ (j + 27) := by
  subst h
  rw [p4, Nat.mul_assoc, ← Nat.pow_add, show 2 * (j + 27) = 2 * j + 54 by omega]
theorem mk_52 {M : Nat} (h : M < 2 ^ 20) : M * 2 ^ (52 - 2 * pw M) * 2 ^ 54 = M * 4 ^ (53 - pw M) := by
  have hp : pw M ≤ 9 := pw_small (by omega)
  rw [mk_pow (j := 26 - pw M) (by omega), show 26 - pw M + 27 = 53 - pw M by omega]
theorem mk_50 {M : Nat} (h : M < 2 ^ 20) : M * 2 ^ (50 - 2 * pw M) * 2 ^ 54 = M * 4 ^ (52 - pw M) := by
  have hp : pw M ≤ 9 := pw_small (by omega)
  rw [mk_pow (j := 25 - pw M) (by omega), show 25 - pw M + 27 = 52 - pw M by omega]
theorem mk_lt {M k : Nat} (h : M < 2 ^ 20) (hk : k ≤ 52 - 2 * pw M) : M * 2 ^ k < 2 ^ 62 := by
  have hp : pw M ≤ 9 := pw_small (by omega)
  have h1 := pw_lt M
  have h2 : M * 2 ^ k ≤ M * 2 ^ (52 - 2 * pw M) := Nat.mul_le_mul_left _ (Nat.pow_le_pow_right (by decide) hk)
  have h3 : M * 2 ^ (52 - 2 * pw M) ≤ 4 ^ (pw M + 1) * 2 ^ (52 - 2 * pw M) := Nat.mul_le_mul_right _ (by omega)
  rw [p4, ← Nat.pow_add, show 2 * (pw M + 1) + (52 - 2 * pw M) = 54 by omega] at h3
  omega
theorem iI_abs {z : Int} (h : inI z) : (if 0 ≤ iI z then iI z else 0 - iI z) = iI (z.natAbs : Int) := by
  have e : (0 ≤ iI z) ↔ 0 ≤ z := iI_le (a := 0) (b := z) in0 h
  by_cases q : 0 ≤ z
  · rw [if_pos (e.mpr q)]; congr 1; omega
  · rw [if_neg (fun w => q (e.mp w))]
    have e2 : (z.natAbs : Int) = 0 - z := by omega
    rw [e2]
    exact (Int32.ofInt_sub 0 z).symm
theorem fits_bool {z : Int} (h : z = 0 ∨ z = 1) : fits .boolean (.int (iI z)) = true := by
  rcases h with rfl | rfl <;> decide +kernel
end SPEC2
