/-! ===== pure: the class's sum ===== -/
theorem sgF_le {P : Nat → Int} {Q : Nat → Nat} {xz a b : Nat} (ha : a < xz) (hb : b < xz) (hQ : ∀ i, i < xz → 0 < Q i) (h : P b * (Q a : Int) ≤ P a * (Q b : Int)) : sgF P Q xz b ≤ sgF P Q xz a := by
  obtain ⟨ea, hea⟩ := pr_dvd Q xz a ha
  obtain ⟨eb, heb⟩ := pr_dvd Q xz b hb
  have hqa := hQ a ha
  have hqb := hQ b hb
  unfold sgF
  rw [show pr Q xz / Q a = ea from by rw [hea]; exact Nat.mul_div_cancel_left ea hqa, show pr Q xz / Q b = eb from by rw [heb]; exact Nat.mul_div_cancel_left eb hqb]
  have h1 := Int.mul_le_mul_of_nonneg_right h (Int.natCast_nonneg (pr Q xz))
  have e1 : P b * (Q a : Int) * ((pr Q xz : Nat) : Int) = P b * (eb : Int) * ((Q a : Int) * (Q b : Int)) := by
    rw [heb, Int.natCast_mul]
    simp only [Int.mul_assoc, Int.mul_comm, Int.mul_left_comm]
  have e2 : P a * (Q b : Int) * ((pr Q xz : Nat) : Int) = P a * (ea : Int) * ((Q a : Int) * (Q b : Int)) := by
    rw [hea, Int.natCast_mul]
    simp only [Int.mul_assoc, Int.mul_comm, Int.mul_left_comm]
  rw [e1, e2] at h1
  exact Int.le_of_mul_le_mul_right h1 (Int.mul_pos (by omega) (by omega))
def stO (od : Nat → Nat) : Nat → Nat
  | 0 => 0
  | d + 1 => stO od d + 2 ^ od d
theorem bit_0 (j : Nat) : bBit 0 j = 0 := by unfold bBit; rw [Nat.zero_div]
theorem st_bits {od : Nat → Nat} {xz : Nat} (hx : xz ≤ 6) (h1 : ∀ k, k < xz → od k < xz) (h2 : ∀ a b, a < b → b < xz → od a ≠ od b) : ∀ d, d ≤ xz → stO od d < 2 ^ xz ∧ (∀ j, j < xz → (bBit (stO od d) j = 0 ↔ ∀ e, e < d → od e ≠ j)) ∧ zb (stO od d) xz + d = xz := by
  intro d
  induction d with
  | zero =>
    intro _
    refine ⟨Nat.pow_pos (by decide), fun j hj => ⟨fun _ e he => absurd he (Nat.not_lt_zero _), fun _ => bit_0 j⟩, ?_⟩
    have : ∀ n, zb 0 n = n := by
      intro n
      induction n with
      | zero => rfl
      | succ n ih => show zb 0 n + (if bBit 0 n = 0 then 1 else 0) = n + 1; rw [ih, if_pos (bit_0 n)]
    exact this xz
  | succ d ih =>
    intro hd
    obtain ⟨i1, i2, i3⟩ := ih (by omega)
    have h64 := p64 xz (by omega)
    have hod := h1 d (by omega)
    have hb : bBit (stO od d) (od d) = 0 := (i2 (od d) hod).mpr (fun e he => h2 e d he (by omega))
    refine ⟨up_bit xz (by omega) (od d) hod _ i1 hb, fun j hj => ?_, ?_⟩
    · show bBit (stO od d + 2 ^ od d) j = 0 ↔ _
      rw [set_bit (od d) (by omega) (stO od d) (by omega) hb j (by omega)]
      by_cases e : j = od d
      · rw [if_pos e]
        exact ⟨fun h => absurd h (by decide), fun h => absurd e.symm (h d (by omega))⟩
      · rw [if_neg e, i2 j hj]
        constructor
        · intro h e2 he2
          by_cases c : e2 = d
          · rw [c]; exact fun q => e q.symm
          · exact h e2 (by omega)
        · intro h e2 he2
          exact h e2 (by omega)
    · have := zb_set xz (by omega) (od d) hod _ i1 hb
      show zb (stO od d + 2 ^ od d) xz + (d + 1) = xz
      omega
theorem max_sum (L : List (Nat × Nat)) (x : Nat) : bE L (fun y => if x < y then y else x) + x * bGe L x = x * bE L (fun _ => 1) + bGath L ((x : Nat) : Int) := by
  unfold bGe bGath
  rw [← bE_mul, ← bE_mul, ← bE_add, ← bE_add]
  apply bE_same
  intro y
  by_cases h : x ≤ y
  · rw [if_pos h, if_pos (show ((x : Nat) : Int) ≤ (y : Int) by omega)]
    by_cases h2 : x < y
    · rw [if_pos h2]; omega
    · rw [if_neg h2]; omega
  · rw [if_neg h, if_neg (show ¬ ((x : Nat) : Int) ≤ (y : Int) by omega), if_neg (show ¬ x < y by omega)]; omega
theorem over_sum (L : List (Nat × Nat)) {D : Int} (hD : 0 < D) (x : Nat) : bZ L (fun y => max 0 (D * (y : Int) - D * (x : Int))) = D * (((bGath L ((x : Nat) : Int) : Nat) : Int) - ((x * bGe L x : Nat) : Int)) := by
  rw [bZ_same (h := fun y => D * max 0 ((y : Int) - (x : Int))) (fun y => by rw [← max_mul hD, Int.mul_sub]), bZ_mul]
  congr 1
  have e : bZ L (fun y => max 0 ((y : Int) - (x : Int))) + ((x * bGe L x : Nat) : Int) = ((bGath L ((x : Nat) : Int) : Nat) : Int) := by
    unfold bGe bGath
    rw [← bE_mul, ← bZ_nat, ← bZ_nat, ← bZ_add]
    apply bZ_same
    intro y
    by_cases h : x ≤ y
    · rw [if_pos h, if_pos (show ((x : Nat) : Int) ≤ (y : Int) by omega)]; omega
    · rw [if_neg h, if_neg (show ¬ ((x : Nat) : Int) ≤ (y : Int) by omega)]; omega
  omega
/-- one box more: its gain, and what comes behind it -/
theorem ord_step {Lx : Nat → List (Nat × Nat)} {px : Nat → Nat} {xz : Nat} {D : Int} {sg : Nat → Int} (hA : FairA Lx px xz D sg) (hx : xz ≤ 6) {st o : Nat} (ho : o < xz) (hs : st < 64) (hb : bBit st o = 0) (hg : ∀ j, j < xz → bBit st j = 0 → sg j ≤ sg o) (x : Nat) : EW Lx D sg st xz (D * (x : Int)) - ((prS Lx st xz : Nat) : Int) * (D * (x : Int)) = D * ((prS Lx (st + 2 ^ o) xz : Nat) : Int) * ((gnV (Lx o) (px o) x : Nat) : Int) + bZ (Lx o) (fun y => EW Lx D sg (st + 2 ^ o) xz (D * (((if x < y then y else x : Nat) : Nat) : Int)) - ((prS Lx (st + 2 ^ o) xz : Nat) : Int) * (D * (((if x < y then y else x : Nat) : Nat) : Int))) := by
  obtain ⟨_, p2⟩ := EW_pull (Lx := Lx) (D := D) (sg := sg) (show o < 6 by omega) hs hb xz ho hx
  have hfs := hA.2 o ho
  have hov := over_sum (Lx o) hA.1 x
  have hz : ∀ j, j < xz → bBit (st + 2 ^ o) j = 0 → sg j ≤ sg o := fun j hj hj0 => by
    rw [set_bit o (by omega) st hs hb j (by omega)] at hj0
    by_cases e : j = o
    · rw [if_pos e] at hj0; omega
    · rw [if_neg e] at hj0; exact hg j hj hj0
  by_cases c : D * (x : Int) ≤ sg o
  · have hbe := bell_eq hA hx ho hs hb c hg
    have hge : 0 ≤ ((bGath (Lx o) ((x : Nat) : Int) : Nat) : Int) - ((x * bGe (Lx o) x : Nat) : Int) - ((px o * bE (Lx o) (fun _ => 1) : Nat) : Int) := by
      have h1 : bZ (Lx o) (fun y => max 0 (D * (y : Int) - sg o)) ≤ bZ (Lx o) (fun y => max 0 (D * (y : Int) - D * (x : Int))) := bZ_le (fun y => by omega)
      rw [hfs, hov] at h1
      have := Int.le_of_mul_le_mul_left h1 hA.1
      omega
    have hgn : ((gnV (Lx o) (px o) x : Nat) : Int) = ((bGath (Lx o) ((x : Nat) : Int) : Nat) : Int) - ((x * bGe (Lx o) x : Nat) : Int) - ((px o * bE (Lx o) (fun _ => 1) : Nat) : Int) := by unfold gnV; omega
    have hms := max_sum (Lx o) x
    have e1 : bZ (Lx o) (fun y => EW Lx D sg (st + 2 ^ o) xz (D * (((if x < y then y else x : Nat) : Nat) : Int)) - ((prS Lx (st + 2 ^ o) xz : Nat) : Int) * (D * (((if x < y then y else x : Nat) : Nat) : Int))) = bZ (Lx o) (fun y => EW Lx D sg (st + 2 ^ o) xz (max (D * (x : Int)) (D * (y : Int)))) - ((prS Lx (st + 2 ^ o) xz : Nat) : Int) * D * ((bE (Lx o) (fun y => if x < y then y else x) : Nat) : Int) := by
      have e2 : bZ (Lx o) (fun y => EW Lx D sg (st + 2 ^ o) xz (D * (((if x < y then y else x : Nat) : Nat) : Int)) - ((prS Lx (st + 2 ^ o) xz : Nat) : Int) * (D * (((if x < y then y else x : Nat) : Nat) : Int))) + bZ (Lx o) (fun y => ((prS Lx (st + 2 ^ o) xz : Nat) : Int) * D * (((if x < y then y else x : Nat) : Nat) : Int)) = bZ (Lx o) (fun y => EW Lx D sg (st + 2 ^ o) xz (max (D * (x : Int)) (D * (y : Int)))) := by
        rw [← bZ_add]
        apply bZ_same
        intro y
        rw [← mx_D hA.1 x y, Int.mul_assoc]
        omega
      rw [bZ_mul, bZ_nat] at e2
      omega
    rw [e1, ← hbe, hgn, p2]
    generalize bZ (Lx o) (fun y => EW Lx D sg (st + 2 ^ o) xz (max (D * (x : Int)) (D * (y : Int)))) = w
    generalize prS Lx (st + 2 ^ o) xz = r
    have hms2 : ((bE (Lx o) (fun y => if x < y then y else x) : Nat) : Int) = (x : Int) * ((bE (Lx o) (fun _ => 1) : Nat) : Int) + (((bGath (Lx o) ((x : Nat) : Int) : Nat) : Int) - ((x * bGe (Lx o) x : Nat) : Int)) := by
      have e3 : ((x * bE (Lx o) (fun _ => 1) : Nat) : Int) = (x : Int) * ((bE (Lx o) (fun _ => 1) : Nat) : Int) := Int.natCast_mul _ _
      omega
    rw [hms2]
    generalize ((bGath (Lx o) ((x : Nat) : Int) : Nat) : Int) - ((x * bGe (Lx o) x : Nat) : Int) = g0
    generalize bE (Lx o) (fun _ => 1) = t
    rw [Int.natCast_mul, Int.natCast_mul, Int.mul_add, Int.mul_sub]
    have a1 : (r : Int) * (t : Int) * (D * (x : Int)) = (r : Int) * D * ((x : Int) * (t : Int)) := by simp only [Int.mul_assoc, Int.mul_comm, Int.mul_left_comm]
    have a2 : D * ((px o : Nat) : Int) * ((r : Int) * (t : Int)) = D * (r : Int) * (((px o : Nat) : Int) * (t : Int)) := by simp only [Int.mul_assoc, Int.mul_comm, Int.mul_left_comm]
    have a3 : (r : Int) * D * g0 = D * (r : Int) * g0 := by rw [Int.mul_comm (r : Int)]
    omega
  · have hle : gnV (Lx o) (px o) x = 0 := by
      have h1 : bZ (Lx o) (fun y => max 0 (D * (y : Int) - D * (x : Int))) ≤ bZ (Lx o) (fun y => max 0 (D * (y : Int) - sg o)) := bZ_le (fun y => by omega)
      rw [hfs, hov] at h1
      have := Int.le_of_mul_le_mul_left h1 hA.1
      unfold gnV
      omega
    rw [EW_flat xz (fun j h2 h3 => Int.le_trans (hg j h2 h3) (by omega)), hle, show (((0 : Nat) : Int)) = 0 from rfl, Int.mul_zero, Int.sub_self, Int.zero_add]
    rw [bZ_same (h := fun _ => 0) (fun y => by
      have k : D * (x : Int) ≤ D * (((if x < y then y else x : Nat) : Nat) : Int) := Int.mul_le_mul_of_nonneg_left (by split <;> omega) (Int.le_of_lt hA.1)
      rw [EW_flat xz (fun j h2 h3 => Int.le_trans (hz j h2 h3) (by omega)), Int.sub_self]), bZ_const, Int.zero_mul]
theorem gn_far {L : List (Nat × Nat)} (hok : bOK L) (p : Nat) : ∀ x, 1001 ≤ x → gnV L p x = 0 := by
  have h0 : gnV L p 1001 = 0 := by
    have e3 := ge_top hok
    have e4 := gath_top hok
    unfold gnV
    rw [e4]
    omega
  intro x hx
  have := gn_le2 L p hx
  omega
theorem sum_same {Lx : Nat → List (Nat × Nat)} {px od : Nat → Nat} {P : Nat → Int} {Q : Nat → Nat} {xz : Nat} (hx : xz ≤ 6) (hok : ∀ i, i < xz → bOK (Lx i)) (hF : ∀ i, i < xz → FairV (Lx i) ((px i * bE (Lx i) (fun _ => 1) : Nat) : Int) (P i) (Q i)) (hS : SortO xz od P Q) : bxV Lx px xz 0 0 = ((srS Lx px od xz : Nat) : Int) ∧ prT (fun k => Lx (od k)) xz = prT Lx xz := by
  have hA := fairA hF
  have hb := st_bits hx hS.1 hS.2.1
  have h64 := p64 xz (by omega)
  have hall : ∀ j, j < xz → ∃ e, e < xz ∧ od e = j := by
    intro j hj
    have hz := (hb xz (Nat.le_refl _)).2.2
    have hn := zb_none xz (show zb (stO od xz) xz = 0 by omega) j hj
    apply Classical.byContradiction
    intro hc
    exact hn (((hb xz (Nat.le_refl _)).2.1 j hj).mpr (fun e he q => hc ⟨e, he, q⟩))
  have hgs : ∀ d, d < xz → ∀ j, j < xz → bBit (stO od d) j = 0 → sgF P Q xz j ≤ sgF P Q xz (od d) := by
    intro d hd j hj hj0
    obtain ⟨e, he, rfl⟩ := hall j hj
    have hne := ((hb d (by omega)).2.1 (od e) hj).mp hj0
    by_cases c : e = d
    · rw [c]; exact Int.le_refl _
    · have hde : d < e := by
        apply Decidable.byContradiction
        intro q
        exact hne e (by omega) rfl
      exact sgF_le (hS.1 d hd) hj (fun i hi => (hF i hi).1) (hS.2.2 d e hde he)
  have key : ∀ d, d ≤ xz → EW Lx ((pr Q xz : Nat) : Int) (sgF P Q xz) 0 xz 0 = ((pr Q xz : Nat) : Int) * ((srS Lx px od d : Nat) : Int) * ((prS Lx (stO od d) xz : Nat) : Int) + EXd (fun k => Lx (od k)) d (fun x => EW Lx ((pr Q xz : Nat) : Int) (sgF P Q xz) (stO od d) xz (((pr Q xz : Nat) : Int) * (x : Int)) - ((prS Lx (stO od d) xz : Nat) : Int) * (((pr Q xz : Nat) : Int) * (x : Int))) := by
    intro d
    induction d with
    | zero =>
      intro _
      show _ = _ * ((0 : Nat) : Int) * _ + (EW Lx _ _ 0 xz (_ * ((0 : Nat) : Int)) - _ * (_ * ((0 : Nat) : Int)))
      rw [show (((0 : Nat) : Int)) = 0 from rfl, Int.mul_zero, Int.zero_mul, Int.mul_zero, Int.sub_zero, Int.zero_add]
    | succ d ih =>
      intro hd
      obtain ⟨b1, b2, b3⟩ := hb d (by omega)
      have hod := hS.1 d (by omega)
      have hb0 : bBit (stO od d) (od d) = 0 := (b2 (od d) hod).mpr (fun e he => hS.2.1 e d he (by omega))
      obtain ⟨_, p2⟩ := EW_pull (Lx := Lx) (D := ((pr Q xz : Nat) : Int)) (sg := sgF P Q xz) (show od d < 6 by omega) (show stO od d < 64 by omega) hb0 xz hod hx
      rw [ih (by omega), EX_same d (fun x => ord_step hA hx hod (by omega) hb0 (hgs d (by omega)) x), EX_add, EX_mul, EX_gn (gn_mono _ _) (gn_far (hok _ hod) _)]
      show _ = ((pr Q xz : Nat) : Int) * ((srS Lx px od d * bE (Lx (od d)) (fun _ => 1) + gS (fun k => Lx (od k)) d (gnV (Lx (od d)) (px (od d))) 1001 : Nat) : Int) * ((prS Lx (stO od d + 2 ^ od d) xz : Nat) : Int) + EXd (fun k => Lx (od k)) d (fun x => bZ (Lx (od d)) (fun y => EW Lx ((pr Q xz : Nat) : Int) (sgF P Q xz) (stO od d + 2 ^ od d) xz (((pr Q xz : Nat) : Int) * (((if x < y then y else x : Nat) : Nat) : Int)) - ((prS Lx (stO od d + 2 ^ od d) xz : Nat) : Int) * (((pr Q xz : Nat) : Int) * (((if x < y then y else x : Nat) : Nat) : Int))))
      rw [p2]
      generalize EXd (fun k => Lx (od k)) d (fun x => bZ (Lx (od d)) (fun y => EW Lx ((pr Q xz : Nat) : Int) (sgF P Q xz) (stO od d + 2 ^ od d) xz (((pr Q xz : Nat) : Int) * (((if x < y then y else x : Nat) : Nat) : Int)) - ((prS Lx (stO od d + 2 ^ od d) xz : Nat) : Int) * (((pr Q xz : Nat) : Int) * (((if x < y then y else x : Nat) : Nat) : Int)))) = w
      generalize gS (fun k => Lx (od k)) d (gnV (Lx (od d)) (px (od d))) 1001 = gg
      generalize prS Lx (stO od d + 2 ^ od d) xz = r
      generalize bE (Lx (od d)) (fun _ => 1) = t
      generalize srS Lx px od d = s0
      generalize pr Q xz = D0
      rw [Int.natCast_add, Int.natCast_mul, Int.natCast_mul, Int.mul_add, Int.add_mul]
      have a1 : (D0 : Int) * (s0 : Int) * ((r : Int) * (t : Int)) = (D0 : Int) * ((s0 : Int) * (t : Int)) * (r : Int) := by simp only [Int.mul_assoc, Int.mul_comm, Int.mul_left_comm]
      have a2 : (D0 : Int) * (r : Int) * (gg : Int) = (D0 : Int) * (gg : Int) * (r : Int) := by simp only [Int.mul_assoc, Int.mul_comm, Int.mul_left_comm]
      omega
  have hnz : ∀ j, j < xz → ¬ bBit (stO od xz) j = 0 := zb_none xz (by have := (hb xz (Nat.le_refl _)).2.2; omega)
  have hpr1 : ∀ n, n ≤ xz → prS Lx (stO od xz) n = 1 := by
    intro n
    induction n with
    | zero => intro _; rfl
    | succ n ih => intro hn; rw [prS_out (hnz n (by omega))]; exact ih (by omega)
  refine ⟨?_, ?_⟩
  · have k := key xz (Nat.le_refl _)
    rw [hpr1 xz (Nat.le_refl _), EX_same xz (h := fun x => 0 * (0 : Int)) (fun x => by rw [EW_flat xz (fun j h1 h2 => absurd h2 (hnz j h1)), hpr1 xz (Nat.le_refl _), Int.sub_self, Int.zero_mul]), EX_mul, Int.zero_mul, Int.add_zero, show (((1 : Nat) : Int)) = 1 from rfl, Int.mul_one] at k
    have e := op_EW hA hx 7 0 0 (Nat.pow_pos (by decide)) (Nat.le_trans (zb_le 0 xz) (by omega))
    rw [show (((0 : Nat) : Int)) = 0 from rfl, Int.mul_zero, k] at e
    unfold bxV
    rw [if_pos ⟨Nat.pow_pos (by decide), by omega⟩]
    exact Int.eq_of_mul_eq_mul_left (show ((pr Q xz : Nat) : Int) ≠ 0 by have := hA.1; omega) e
  · have kp : ∀ d, d ≤ xz → prS Lx (stO od d) xz * prT (fun k => Lx (od k)) d = prS Lx 0 xz := by
      intro d
      induction d with
      | zero => intro _; show _ * 1 = _; rw [Nat.mul_one]; rfl
      | succ d ih =>
        intro hd
        obtain ⟨b1, b2, b3⟩ := hb d (by omega)
        have hod := hS.1 d (by omega)
        have hb0 : bBit (stO od d) (od d) = 0 := (b2 (od d) hod).mpr (fun e he => hS.2.1 e d he (by omega))
        obtain ⟨_, p2⟩ := EW_pull (Lx := Lx) (D := 1) (sg := sgF P Q xz) (show od d < 6 by omega) (show stO od d < 64 by omega) hb0 xz hod hx
        rw [← ih (by omega), p2]
        show prS Lx (stO od d + 2 ^ od d) xz * (prT (fun k => Lx (od k)) d * bE (Lx (od d)) (fun _ => 1)) = _
        rw [Nat.mul_comm (prT _ d), ← Nat.mul_assoc]
    have k1 := kp xz (Nat.le_refl _)
    rw [hpr1 xz (Nat.le_refl _), Nat.one_mul] at k1
    have k2 : ∀ n, n ≤ xz → prS Lx 0 n = prT Lx n := by
      intro n
      induction n with
      | zero => intro _; rfl
      | succ n ih => intro hn; rw [prS_in (bit_0 n), ih (by omega)]; rfl
    rw [k1, k2 xz (Nat.le_refl _)]
