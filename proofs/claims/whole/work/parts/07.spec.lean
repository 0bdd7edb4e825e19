/-! ===== what the methods answer, in whole numbers ===== -/
section SPEC
theorem int_sq_le {a : Int} {k : Nat} (h1 : -(k : Int) ≤ a) (h2 : a ≤ k) : 0 ≤ a * a ∧ a * a ≤ (k : Int) * k := by
  rcases Int.le_total 0 a with h | h
  · exact ⟨Int.mul_nonneg h h, Int.mul_le_mul h2 h2 h (by omega)⟩
  · have e : a * a = (-a) * (-a) := by grind
    rw [e]
    exact ⟨Int.mul_nonneg (by omega) (by omega), Int.mul_le_mul (by omega) (by omega) (by omega) (by omega)⟩
def dA (S : pgS) (a b : Nat) : Int := (sA S b : Int) - (sA S a : Int)
def dU (S : pgS) (a b : Nat) : Int := (sU S b : Int) - (sU S a : Int)
/-- the sum of the legs' squares, in sixteenths, of a field wide or not -/
def sqw (S : pgS) (w a b : Nat) : Nat := (if w = 0 then 1 else 4) * (dA S a b * dA S a b + dU S a b * dU S a b).toNat
abbrev sq (S : pgS) (a b : Nat) : Nat := sqw S (sW S) a b
theorem sq_sum {S : pgS} (h : pgOk S) (a b : Nat) : 0 ≤ dA S a b * dA S a b + dU S a b * dU S a b ∧ dA S a b * dA S a b + dU S a b * dU S a b ≤ 16200 := by
  obtain ⟨-, h2, h3, -⟩ := h
  have a1 := h2 a; have a2 := h2 b; have a3 := h3 a; have a4 := h3 b
  have q1 := int_sq_le (a := dA S a b) (k := 90) (by unfold dA; omega) (by unfold dA; omega)
  have q2 := int_sq_le (a := dU S a b) (k := 90) (by unfold dU; omega) (by unfold dU; omega)
  omega
theorem sqw_spec {S : pgS} (h : pgOk S) {w : Nat} (hw : w ≤ 1) (a b : Nat) : ((w = 0 ∧ ((sqw S w a b : Nat) : Int) = dA S a b * dA S a b + dU S a b * dU S a b) ∨ (w = 1 ∧ ((sqw S w a b : Nat) : Int) = 4 * (dA S a b * dA S a b + dU S a b * dU S a b))) ∧ sqw S w a b ≤ 64800 := by
  have q := sq_sum h a b
  unfold sqw
  generalize dA S a b * dA S a b + dU S a b * dU S a b = z at q ⊢
  rcases (show w = 0 ∨ w = 1 by omega) with rfl | rfl
  · refine ⟨Or.inl ⟨rfl, ?_⟩, ?_⟩ <;> simp <;> omega
  · refine ⟨Or.inr ⟨rfl, ?_⟩, ?_⟩ <;> simp <;> omega
/-- the grains of the root of some sixteenths, and of a stretch -/
def gr (M : Nat) : Nat := (qs (M * 4 ^ 15) + 1) / 2
def gN (S : pgS) (a b : Nat) : Nat := gr (sq S a b)
theorem gr_lt {M : Nat} (h : M < 2 ^ 20) : gr M < 2 ^ 26 := by
  have : qs (M * 4 ^ 15) < 2 ^ 25 := qs_below (by omega)
  unfold gr; omega
theorem gN_lt {S : pgS} (h : pgOk S) (a b : Nat) : gN S a b < 2 ^ 26 := gr_lt (by have : sq S a b ≤ 64800 := (sqw_spec h h.2.2.2.2.2 a b).2; omega)
theorem qs_0 : qs 0 = 0 := rfl
theorem sqw_self (S : pgS) (w a : Nat) : sqw S w a a = 0 := by
  unfold sqw dA dU; simp
theorem gN_self (S : pgS) (a : Nat) : gN S a a = 0 := by
  unfold gN gr sq; rw [sqw_self]; rfl
theorem sqw_comm (S : pgS) (w a b : Nat) : sqw S w a b = sqw S w b a := by
  unfold sqw dA dU
  congr 2
  grind
theorem gN_comm (S : pgS) (a b : Nat) : gN S a b = gN S b a := by
  unfold gN; rw [show sq S a b = sq S b a from sqw_comm S _ a b]
theorem gr_up (M : Nat) : M * 4 ^ 15 < (2 * gr M + 1) * (2 * gr M + 1) := by
  have h := qs_lt (M * 4 ^ 15)
  unfold gr
  generalize qs (M * 4 ^ 15) = q at h ⊢
  have h2 : (q + 1) * (q + 1) ≤ (2 * ((q + 1) / 2) + 1) * (2 * ((q + 1) / 2) + 1) := Nat.mul_le_mul (by omega) (by omega)
  omega
theorem gr_lo (M : Nat) : gr M = 0 ∨ (2 * gr M - 1) * (2 * gr M - 1) ≤ M * 4 ^ 15 := by
  have h := qs_le (M * 4 ^ 15)
  unfold gr
  generalize qs (M * 4 ^ 15) = q at h ⊢
  have h2 : (2 * ((q + 1) / 2) - 1) * (2 * ((q + 1) / 2) - 1) ≤ q * q := Nat.mul_le_mul (by omega) (by omega)
  omega
theorem sqw_int (S : pgS) (w a b : Nat) : ((sqw S w a b : Nat) : Int) = (if w = 0 then 1 else 4) * (dA S a b * dA S a b + dU S a b * dU S a b) := by
  have e : ∀ z : Int, 0 ≤ z * z := fun z => by
    rcases Int.le_total 0 z with q | q
    · exact Int.mul_nonneg q q
    · exact Int.mul_nonneg_of_nonpos_of_nonpos q q
  have h1 := e (dA S a b)
  have h2 := e (dU S a b)
  have h3 : 0 ≤ dA S a b * dA S a b + dU S a b * dU S a b := by omega
  clear h1 h2
  unfold sqw
  generalize dA S a b * dA S a b + dU S a b * dU S a b = z at *
  by_cases hw : w = 0
  · simp only [hw, if_true]; omega
  · simp only [hw, if_false]; omega
/-- a way by a third peg is not shorter by more than one grain -/
theorem gN_tri (S : pgS) (a b c : Nat) : gN S a c ≤ gN S a b + gN S b c + 1 := by
  have u1 := gr_up (sq S a b)
  have u2 := gr_up (sq S b c)
  have u3 := gr_lo (sq S a c)
  have e1 := sqw_int S (sW S) a b
  have e2 := sqw_int S (sW S) b c
  have e3 := sqw_int S (sW S) a c
  have hA : dA S a c = dA S a b + dA S b c := by unfold dA; omega
  have hU : dU S a c = dU S a b + dU S b c := by unfold dU; omega
  have cs := cs_core (dA S a b) (dU S a b) (dA S b c) (dU S b c)
  rw [hA, hU] at e3
  show gr (sq S a c) ≤ gr (sq S a b) + gr (sq S b c) + 1
  generalize gr (sq S a c) = g3 at *
  generalize gr (sq S a b) = g1 at *
  generalize gr (sq S b c) = g2 at *
  change ((sq S a b : Nat) : Int) = _ at e1
  change ((sq S b c : Nat) : Int) = _ at e2
  change ((sq S a c : Nat) : Int) = _ at e3
  generalize sq S a c = M3 at *
  generalize sq S a b = M1 at *
  generalize sq S b c = M2 at *
  generalize dA S a b = x1 at *
  generalize dU S a b = y1 at *
  generalize dA S b c = x2 at *
  generalize dU S b c = y2 at *
  obtain ⟨f, hf⟩ : ∃ f : Int, f = if sW S = 0 then 1 else 4 := ⟨_, rfl⟩
  rw [← hf] at e1 e2 e3
  have hf0 : 0 ≤ f := by rw [hf]; split <;> decide
  have hcs2 : (4 ^ 14 * (f * (x1 * x2 + y1 * y2))) * (4 ^ 14 * (f * (x1 * x2 + y1 * y2))) ≤ ((M1 : Int) * 4 ^ 14) * ((M2 : Int) * 4 ^ 14) := by
    rw [e1, e2]
    have k : 0 ≤ (4 ^ 14 * f) * (4 ^ 14 * f) := Int.mul_nonneg (by omega) (by omega)
    have := Int.mul_le_mul_of_nonneg_left cs k
    have l1 : (4 ^ 14 * (f * (x1 * x2 + y1 * y2))) * (4 ^ 14 * (f * (x1 * x2 + y1 * y2))) = (4 ^ 14 * f) * (4 ^ 14 * f) * ((x1 * x2 + y1 * y2) * (x1 * x2 + y1 * y2)) := by grind
    have l2 : (f * (x1 * x1 + y1 * y1) * 4 ^ 14) * (f * (x2 * x2 + y2 * y2) * 4 ^ 14) = (4 ^ 14 * f) * (4 ^ 14 * f) * ((x1 * x1 + y1 * y1) * (x2 * x2 + y2 * y2)) := by grind
    rw [l1, l2]
    exact this
  have hN : (M3 : Int) * 4 ^ 14 = (M1 : Int) * 4 ^ 14 + (M2 : Int) * 4 ^ 14 + 2 * (4 ^ 14 * (f * (x1 * x2 + y1 * y2))) := by
    rw [e1, e2, e3]; grind
  have t := tri_core (N1 := (M1 : Int) * 4 ^ 14) (N2 := (M2 : Int) * 4 ^ 14) (N3 := (M3 : Int) * 4 ^ 14) (g1 := g1) (g2 := g2) (g3 := g3) (D := 4 ^ 14 * (f * (x1 * x2 + y1 * y2))) (by omega) (by omega) hN hcs2
    (by have h9 := Int.ofNat_lt.mpr u1
        rw [Int.natCast_mul, Int.natCast_mul, show ((2 * g1 + 1 : Nat) : Int) = 2 * (g1 : Int) + 1 by omega] at h9
        omega)
    (by have h9 := Int.ofNat_lt.mpr u2
        rw [Int.natCast_mul, Int.natCast_mul, show ((2 * g2 + 1 : Nat) : Int) = 2 * (g2 : Int) + 1 by omega] at h9
        omega)
    (by rcases u3 with u3 | u3
        · left; omega
        · by_cases h0 : g3 = 0
          · left; omega
          · right
            obtain ⟨t, ht⟩ : ∃ t, 2 * g3 = t + 1 := ⟨2 * g3 - 1, by omega⟩
            have e5 : 2 * g3 - 1 = t := by omega
            rw [e5] at u3
            have e6 : 2 * (g3 : Int) - 1 = (t : Int) := by omega
            rw [e6]
            have h9 := Int.ofNat_le.mpr u3
            rw [Int.natCast_mul, Int.natCast_mul] at h9
            omega)
    (by omega) (by omega)
  omega
end SPEC
