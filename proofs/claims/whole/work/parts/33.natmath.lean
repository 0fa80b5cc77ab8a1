/-! ===== the class's whole numbers: parts of nine digits ===== -/
def dg (v k : Nat) : Nat := v / 1000000000 ^ k % 1000000000
def cy (u w f k : Nat) : Nat := (u % 1000000000 ^ k + w % 1000000000 ^ k * f) / 1000000000 ^ k
def cyT (u w f k : Nat) : Nat := (u % 1000000000 ^ (k + 1) + w % 1000000000 ^ (k + 1) * f) / 1000000000 ^ k
theorem dg_lt (v k : Nat) : dg v k < 1000000000 := Nat.mod_lt _ (by decide)
theorem bp (k : Nat) : 0 < 1000000000 ^ k := Nat.pow_pos (by decide)
theorem mod_pow_succ' (u k : Nat) : u % 1000000000 ^ (k + 1) = u % 1000000000 ^ k + 1000000000 ^ k * dg u k := by
  rw [Nat.pow_succ, Nat.mod_mul]; rfl
theorem cy_0 (u w f : Nat) : cy u w f 0 = 0 := by
  unfold cy; rw [Nat.pow_zero, Nat.mod_one, Nat.mod_one]; omega
theorem cy_step (u w f k : Nat) : cy u w f k + dg u k + dg w k * f = cyT u w f k := by
  unfold cy cyT
  rw [mod_pow_succ', mod_pow_succ']
  have e : u % 1000000000 ^ k + 1000000000 ^ k * dg u k + (w % 1000000000 ^ k + 1000000000 ^ k * dg w k) * f = (u % 1000000000 ^ k + w % 1000000000 ^ k * f) + 1000000000 ^ k * (dg u k + dg w k * f) := by
    rw [Nat.add_mul, Nat.mul_add, Nat.mul_assoc]; omega
  rw [e, Nat.add_mul_div_left _ _ (bp k)]
  omega
theorem cy_dig (u w f k : Nat) : cyT u w f k % 1000000000 = dg (u + w * f) k := by
  unfold cyT
  conv => rhs; unfold dg; rw [← Nat.div_add_mod u (1000000000 ^ (k + 1)), ← Nat.div_add_mod w (1000000000 ^ (k + 1))]
  have e : 1000000000 ^ (k + 1) * (u / 1000000000 ^ (k + 1)) + u % 1000000000 ^ (k + 1) + (1000000000 ^ (k + 1) * (w / 1000000000 ^ (k + 1)) + w % 1000000000 ^ (k + 1)) * f = (u % 1000000000 ^ (k + 1) + w % 1000000000 ^ (k + 1) * f) + 1000000000 ^ k * (1000000000 * (u / 1000000000 ^ (k + 1) + w / 1000000000 ^ (k + 1) * f)) := by
    have e2 : 1000000000 ^ k * (1000000000 * (u / 1000000000 ^ (k + 1) + w / 1000000000 ^ (k + 1) * f)) = 1000000000 ^ (k + 1) * (u / 1000000000 ^ (k + 1)) + 1000000000 ^ (k + 1) * (w / 1000000000 ^ (k + 1)) * f := by
      rw [← Nat.mul_assoc, ← Nat.pow_succ, Nat.mul_add, Nat.mul_assoc]
    rw [e2, Nat.add_mul]; omega
  rw [e, Nat.add_mul_div_left _ _ (bp k), Nat.add_mul_mod_self_left]
theorem cy_next (u w f k : Nat) : cyT u w f k / 1000000000 = cy u w f (k + 1) := by
  unfold cyT cy
  rw [Nat.div_div_eq_div_mul, ← Nat.pow_succ]
theorem cy_le (u w f k : Nat) : cy u w f k ≤ f := by
  unfold cy
  have h1 := Nat.mod_lt u (bp k)
  have h2 := Nat.mod_lt w (bp k)
  have h3 : w % 1000000000 ^ k * f ≤ (1000000000 ^ k - 1) * f := Nat.mul_le_mul_right f (by omega)
  have h4 : (1000000000 ^ k - 1) * f + f = 1000000000 ^ k * f := by
    rw [Nat.sub_mul, Nat.one_mul]
    have : f ≤ 1000000000 ^ k * f := Nat.le_mul_of_pos_left f (bp k)
    omega
  by_cases hf : f = 0
  · subst hf
    rw [Nat.mul_zero, Nat.add_zero, Nat.div_eq_of_lt h1]
    exact Nat.le_refl _
  · apply Nat.le_of_lt_succ
    apply Nat.div_lt_of_lt_mul
    rw [Nat.mul_succ]
    omega
theorem cyT_le (u w f k : Nat) : cyT u w f k ≤ 1000000000 * f + 999999999 := by
  rw [← cy_step]
  have h1 := cy_le u w f k
  have h2 := dg_lt u k
  have h3 : dg w k * f ≤ 999999999 * f := Nat.mul_le_mul_right f (by have := dg_lt w k; omega)
  omega
theorem dg_ext {u v : Nat} (hu : u < 10 ^ 54) (hv : v < 10 ^ 54) (h : ∀ k, k < 6 → dg u k = dg v k) : u = v := by
  have a : ∀ k, k ≤ 6 → u % 1000000000 ^ k = v % 1000000000 ^ k := by
    intro k
    induction k with
    | zero => intro _; rw [Nat.pow_zero, Nat.mod_one, Nat.mod_one]
    | succ k ih => intro hk; rw [mod_pow_succ', mod_pow_succ', ih (by omega), h k (by omega)]
  have := a 6 (Nat.le_refl 6)
  rw [Nat.mod_eq_of_lt (by omega), Nat.mod_eq_of_lt (by omega)] at this
  exact this
/-- the Natural whose object is cell i and whose parts are cell i + 1 has the value v -/
def NatV (E : wE) (A : Nat → Nat) (g : Nat → va_E) (i v : Nat) : Prop := v < 10 ^ 54 ∧ g i = .inr (5, [.ref (A (i + 1))]) ∧ ∃ p : Nat → Int32, g (i + 1) = aI E 6 p ∧ ∀ k, k < 6 → p k = iI ((dg v k : Nat) : Int)
theorem NatV.frame {E : wE} {A : Nat → Nat} {g g' : Nat → va_E} {i v : Nat} (h : NatV E A g i v) (h1 : g' i = g i) (h2 : g' (i + 1) = g (i + 1)) : NatV E A g' i v := by
  obtain ⟨a, b, p, c, d⟩ := h
  exact ⟨a, by rw [h1]; exact b, p, by rw [h2]; exact c, d⟩
