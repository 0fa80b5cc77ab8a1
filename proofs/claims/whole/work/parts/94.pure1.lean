/-! ===== pure: fractions, letting, pass, ranks ===== -/
theorem rd_scale (P : Int) (Q : Nat) {c : Nat} (hc : 0 < c) : rdT (P * (c : Int)) (Q * c) = rdT P Q ∧ rdB (P * (c : Int)) (Q * c) = rdB P Q := by
  have e1 : (P * (c : Int)).natAbs = P.natAbs * c := by rw [Int.natAbs_mul]; rfl
  have e2 : Nat.gcd (P.natAbs * c) (Q * c) = Nat.gcd P.natAbs Q * c := Nat.gcd_mul_right _ _ _
  have e3 : (P * (c : Int)).sign = P.sign := by
    rw [Int.sign_mul, Int.sign_eq_one_of_pos (show (0 : Int) < (c : Int) by omega), Int.mul_one]
  unfold rdT rdB
  rw [e1, e2, e3, Nat.mul_div_mul_right _ _ hc, Nat.mul_div_mul_right _ _ hc]
  exact ⟨rfl, rfl⟩
theorem rd_cross {P1 P2 : Int} {Q1 Q2 : Nat} (h1 : 0 < Q1) (h2 : 0 < Q2) (h : P1 * (Q2 : Int) = P2 * (Q1 : Int)) : rdT P1 Q1 = rdT P2 Q2 ∧ rdB P1 Q1 = rdB P2 Q2 := by
  have a := rd_scale P1 Q1 h2
  have b := rd_scale P2 Q2 h1
  rw [h, Nat.mul_comm Q1 Q2] at a
  exact ⟨a.1.symm.trans b.1, a.2.symm.trans b.2⟩
theorem rd_scaleN (p : Nat) (Q : Nat) {c : Nat} (hc : 0 < c) : rdT ((p * c : Nat) : Int) (Q * c) = rdT (p : Int) Q ∧ rdB ((p * c : Nat) : Int) (Q * c) = rdB (p : Int) Q := by
  rw [Int.natCast_mul]
  exact rd_scale (p : Int) Q hc
theorem rdB_pos (P : Int) {Q : Nat} (hQ : 0 < Q) : 0 < rdB P Q := by
  unfold rdB
  exact Nat.div_pos (Nat.gcd_le_right _ hQ) (Nat.gcd_pos_of_pos_right _ hQ)
theorem ft_pr : ∀ n, 1 ≤ n → ft n = pr (fun k => k + 2) (n - 1)
  | 1, _ => rfl
  | n + 2, _ => by
    show ft (n + 1) * (n + 1 + 1) = pr (fun k => k + 2) n * (n + 2)
    rw [ft_pr (n + 1) (by omega)]; rfl
theorem rk_same {py : Nat → Nat} {nn : Nat} (h : 1 ≤ nn) : rdT ((ft nn * rkN py nn nn : Nat) : Int) (ft nn * ft nn) = rdT ((rkN py nn nn : Nat) : Int) (pr (fun k => k + 2) (nn - 1)) ∧ rdB ((ft nn * rkN py nn nn : Nat) : Int) (ft nn * ft nn) = rdB ((rkN py nn nn : Nat) : Int) (pr (fun k => k + 2) (nn - 1)) := by
  rw [← ft_pr nn h, Nat.mul_comm (ft nn) (rkN py nn nn)]
  exact rd_scaleN _ _ (ft_pos nn)
theorem ltS_front (B : Nat) : ∀ u r, ltS B r (u + 1) = B / r + ltS B (r + 1) u := by
  intro u
  induction u with
  | zero => intro r; show 0 + B / (r + 0) = B / r + 0; rw [Nat.add_zero, Nat.zero_add, Nat.add_zero]
  | succ u ih =>
    intro r
    show ltS B r (u + 1) + B / (r + (u + 1)) = B / r + (ltS B (r + 1) u + B / (r + 1 + u))
    rw [ih r, Nat.add_assoc, show r + (u + 1) = r + 1 + u from by omega]
theorem div_t {M t k : Nat} (hk : 1 ≤ k) (h : k ∣ M) : M * t / k = M / k * t := by
  rw [Nat.mul_comm M t, Nat.mul_div_assoc _ h, Nat.mul_comm]
theorem ls_lt {M t nn : Nat} (hM : ∀ k, 1 ≤ k → k < nn → k ∣ M) : ∀ u r, 1 ≤ r → r + u = nn → lsS (M * t) nn u = ltS M r u * t := by
  intro u
  induction u with
  | zero => intro r _ _; show 0 = 0 * t; rw [Nat.zero_mul]
  | succ u ih =>
    intro r hr hn
    show (if nn - 1 - u = 0 then lsS (M * t) nn u else lsS (M * t) nn u + M * t / (nn - 1 - u)) = _
    rw [if_neg (by omega), show nn - 1 - u = r from by omega, ltS_front, ih (r + 1) (by omega) (by omega), div_t hr (hM r hr (by omega)), Nat.add_mul, Nat.add_comm]
theorem lsW_lt {M t nn r : Nat} (hM : ∀ k, 1 ≤ k → k < nn → k ∣ M) (hr : r < nn) : lsW (M * t) nn (nn - 1 - r) = ltV M nn r * t := by
  unfold lsW ltV
  rw [show nn - 1 - (nn - 1 - r) = r from by omega]
  by_cases e : r = 0
  · rw [if_pos e, if_pos e]
  · rw [if_neg e, if_neg e, show nn - 1 - r + 1 = nn - r from by omega, ls_lt hM (nn - r) r (by omega) (by omega), Nat.mul_assoc, Nat.mul_comm t, ← Nat.mul_assoc]
theorem ppW_pr : pr ppV 17 = ppW := by decide +kernel
theorem let_same {nn r : Nat} (h1 : 1 ≤ nn) (h2 : nn ≤ 60) (hr : r < nn) : rdT ((ltV (mlc (nn - 2)) nn r : Nat) : Int) (mlc (nn - 2) * nn) = rdT ((lsW (pr ppV 17) nn (nn - 1 - r) : Nat) : Int) (pr ppV 17 * nn) ∧ rdB ((ltV (mlc (nn - 2)) nn r : Nat) : Int) (mlc (nn - 2) * nn) = rdB ((lsW (pr ppV 17) nn (nn - 1 - r) : Nat) : Int) (pr ppV 17 * nn) := by
  obtain ⟨t, ht⟩ := mlc_W (nn - 2) (by omega)
  have htp : 0 < t := Nat.pos_of_ne_zero (fun e => by rw [e, Nat.mul_zero] at ht; exact absurd ht (by decide))
  rw [ppW_pr, ht, lsW_lt (fun k h3 h4 => mlc_all (nn - 2) k h3 (by omega)) hr, Nat.mul_assoc, Nat.mul_comm t nn, ← Nat.mul_assoc]
  have := rd_scaleN (ltV (mlc (nn - 2)) nn r) (mlc (nn - 2) * nn) htp
  exact ⟨this.1.symm, this.2.symm⟩
/-- the least r that wins the most -/
def IsB (nn : Nat) (v : Nat → Nat) (b : Nat) : Prop := b < nn ∧ (∀ r, r < nn → v r ≤ v b) ∧ ∀ r, r < b → v r < v b
theorem IsB_one {nn : Nat} {v : Nat → Nat} {b c : Nat} (h1 : IsB nn v b) (h2 : IsB nn v c) : b = c := by
  have key : ∀ b c, IsB nn v b → IsB nn v c → ¬ b < c := fun b c h1 h2 hlt => by
    have a := h1.2.1 c h2.1
    have d := h2.2.2 b hlt
    omega
  have k1 := key b c h1 h2
  have k2 := key c b h2 h1
  omega
theorem ps_inv (B nn : Nat) : ∀ k, psB B nn k ≤ k ∧ psM B nn k = ltV B nn (psB B nn k) ∧ (∀ r, r ≤ k → ltV B nn r ≤ psM B nn k) ∧ ∀ r, r < psB B nn k → ltV B nn r < psM B nn k := by
  intro k
  induction k with
  | zero => exact ⟨Nat.le_refl _, rfl, fun r hr => by rw [show r = 0 from by omega]; exact Nat.le_refl _, fun r hr => absurd hr (Nat.not_lt_zero _)⟩
  | succ k ih =>
    obtain ⟨i1, i2, i3, i4⟩ := ih
    by_cases h : psM B nn k < ltV B nn (k + 1)
    · have e1 : psM B nn (k + 1) = ltV B nn (k + 1) := if_pos h
      have e2 : psB B nn (k + 1) = k + 1 := if_pos h
      rw [e1, e2]
      refine ⟨Nat.le_refl _, rfl, fun r hr => ?_, fun r hr => ?_⟩
      · by_cases e : r = k + 1
        · rw [e]; exact Nat.le_refl _
        · have := i3 r (by omega); omega
      · have := i3 r (by omega); omega
    · have e1 : psM B nn (k + 1) = psM B nn k := if_neg h
      have e2 : psB B nn (k + 1) = psB B nn k := if_neg h
      rw [e1, e2]
      refine ⟨by omega, i2, fun r hr => ?_, i4⟩
      by_cases e : r = k + 1
      · rw [e]; omega
      · exact i3 r (by omega)
theorem ls_inv {M t nn : Nat} (hM : ∀ k, 1 ≤ k → k < nn → k ∣ M) : ∀ d, 1 ≤ d → d ≤ nn → nn - d ≤ lsB (M * t) nn d ∧ lsB (M * t) nn d < nn ∧ lsM (M * t) nn d = ltV M nn (lsB (M * t) nn d) * t ∧ (∀ r, nn - d ≤ r → r < nn → ltV M nn r * t ≤ lsM (M * t) nn d) ∧ ∀ r, nn - d ≤ r → r < lsB (M * t) nn d → ltV M nn r * t < lsM (M * t) nn d := by
  intro d
  induction d with
  | zero => intro h; exact absurd h (by omega)
  | succ d ih =>
    intro _ hd
    have hw : lsW (M * t) nn d = ltV M nn (nn - 1 - d) * t := by
      have := lsW_lt (t := t) hM (show nn - 1 - d < nn by omega)
      rwa [show nn - 1 - (nn - 1 - d) = d from by omega] at this
    by_cases h : lsM (M * t) nn d ≤ lsW (M * t) nn d
    · have e1 : lsM (M * t) nn (d + 1) = lsW (M * t) nn d := if_pos h
      have e2 : lsB (M * t) nn (d + 1) = nn - 1 - d := if_pos h
      rw [e1, e2, hw]
      refine ⟨by omega, by omega, rfl, fun r h1 h2 => ?_, fun r h1 h2 => absurd h1 (by omega)⟩
      by_cases e : r = nn - 1 - d
      · rw [e]; exact Nat.le_refl _
      · have := (ih (by omega) (by omega)).2.2.2.1 r (by omega) h2
        omega
    · have e1 : lsM (M * t) nn (d + 1) = lsM (M * t) nn d := if_neg h
      have e2 : lsB (M * t) nn (d + 1) = lsB (M * t) nn d := if_neg h
      have hd1 : 1 ≤ d := by
        apply Decidable.byContradiction
        intro h0
        rw [show d = 0 from by omega] at h
        exact h (Nat.zero_le _)
      obtain ⟨i1, i2, i3, i4, i5⟩ := ih hd1 (by omega)
      rw [e1, e2]
      refine ⟨by omega, i2, i3, fun r h1 h2 => ?_, fun r h1 h2 => ?_⟩
      · by_cases e : r = nn - 1 - d
        · rw [e]; omega
        · exact i4 r (by omega) h2
      · by_cases e : r = nn - 1 - d
        · rw [e]; omega
        · exact i5 r (by omega) h2
theorem pass_same {nn : Nat} (h1 : 1 ≤ nn) (h2 : nn ≤ 60) : psB (mlc (nn - 2)) nn (nn - 1) = lsB (pr ppV 17) nn nn := by
  obtain ⟨t, ht⟩ := mlc_W (nn - 2) (by omega)
  have htp : 0 < t := Nat.pos_of_ne_zero (fun e => by rw [e, Nat.mul_zero] at ht; exact absurd ht (by decide))
  rw [ppW_pr, ht]
  have a := ps_inv (mlc (nn - 2)) nn (nn - 1)
  have b := ls_inv (t := t) (M := mlc (nn - 2)) (nn := nn) (fun k h3 h4 => mlc_all (nn - 2) k h3 (by omega)) nn h1 (Nat.le_refl _)
  refine IsB_one (nn := nn) (v := ltV (mlc (nn - 2)) nn) ⟨by omega, fun r hr => ?_, fun r hr => ?_⟩ ⟨b.2.1, fun r hr => ?_, fun r hr => ?_⟩
  · rw [← a.2.1]; exact a.2.2.1 r (by omega)
  · rw [← a.2.1]; exact a.2.2.2 r hr
  · have := b.2.2.2.1 r (by omega) hr
    rw [b.2.2.1] at this
    exact Nat.le_of_mul_le_mul_right this htp
  · have := b.2.2.2.2 r (by omega) hr
    rw [b.2.2.1] at this
    exact Nat.lt_of_mul_lt_mul_right this
