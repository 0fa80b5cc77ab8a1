/-! ===== pure: the class's sum over the order is that value too ===== -/
theorem bZ_le_on {L : List (Nat × Nat)} {f h : Nat → Int} (e : ∀ k, k < L.length → f (L.getD k (0, 0)).1 ≤ h (L.getD k (0, 0)).1) : bZ L f ≤ bZ L h := by
  have hs : ∀ t, t ≤ L.length → bZ (L.take t) f ≤ bZ (L.take t) h := by
    intro t
    induction t with
    | zero => intro _; exact Int.le_refl _
    | succ t ih =>
      intro ht
      rw [bZ_step L t (by omega), bZ_step L t (by omega)]
      have := Int.mul_le_mul_of_nonneg_right (e t (by omega)) (Int.natCast_nonneg (L.getD t (0, 0)).2)
      have := ih (by omega)
      omega
  have := hs L.length (Nat.le_refl _)
  rwa [List.take_length] at this
theorem EW_ub {Lx : Nat → List (Nat × Nat)} {D : Int} {sg : Nat → Int} {st : Nat} {M : Int} (hD : ∀ x : Nat, x ≤ 1000 → D * (x : Int) ≤ M) : ∀ n, (∀ i, i < n → bOK (Lx i)) → ∀ m, m ≤ M → EW Lx D sg st n m ≤ ((prS Lx st n : Nat) : Int) * M := by
  intro n
  induction n with
  | zero => intro _ m hm; show m ≤ ((1 : Nat) : Int) * M; rw [show (((1 : Nat) : Int)) = 1 from rfl, Int.one_mul]; exact hm
  | succ n ih =>
    intro hok m hm
    by_cases hb : bBit st n = 0
    · rw [EW_in hb, prS_in hb]
      have h1 : bZ (Lx n) (fun x => EW Lx D sg st n (max m (min (D * (x : Int)) (sg n)))) ≤ bZ (Lx n) (fun _ => ((prS Lx st n : Nat) : Int) * M) := by
        apply bZ_le_on
        intro k hk
        have hx := hD _ ((hok n (by omega)).2 k hk).1
        exact ih (fun i hi => hok i (by omega)) _ (by omega)
      rw [bZ_const] at h1
      rw [Int.natCast_mul, Int.mul_right_comm]
      exact h1
    · rw [EW_out hb, prS_out hb]; exact ih (fun i hi => hok i (by omega)) m hm
def bxV (Lx : Nat → List (Nat × Nat)) (px : Nat → Nat) (xz st x : Nat) : Int := if st < 2 ^ xz ∧ x ≤ 1000 then opV Lx px xz 7 st x else 0
theorem bxV_rng {Lx : Nat → List (Nat × Nat)} {px : Nat → Nat} {xz : Nat} {D : Int} {sg : Nat → Int} (hA : FairA Lx px xz D sg) (hx : xz ≤ 6) (hok : ∀ i, i < xz → bOK (Lx i)) (st x : Nat) : 0 ≤ bxV Lx px xz st x ∧ bxV Lx px xz st x ≤ 10 ^ 30 := by
  unfold bxV
  by_cases h : st < 2 ^ xz ∧ x ≤ 1000
  · rw [if_pos h]
    have e := op_EW hA hx 7 st x h.1 (Nat.le_trans (zb_le st xz) (by omega))
    have l1 := EW_ge Lx D sg st xz (D * (x : Int))
    have hDx : 0 ≤ D * (x : Int) := Int.mul_nonneg (Int.le_of_lt hA.1) (Int.natCast_nonneg _)
    have l2 := Int.mul_nonneg (Int.natCast_nonneg (prS Lx st xz)) hDx
    have u1 := EW_ub (D := D) (sg := sg) (st := st) (M := D * ((1000 : Nat) : Int)) (fun y hy => Int.mul_le_mul_of_nonneg_left (by omega) (Int.le_of_lt hA.1)) xz hok (D * (x : Int)) (Int.mul_le_mul_of_nonneg_left (by omega) (Int.le_of_lt hA.1))
    have hp := prS_le (Lx := Lx) (fun k hk => bOK_tot (hok k hk)) st xz (Nat.le_refl _)
    have hp6 : 8000 ^ xz ≤ 8000 ^ 6 := Nat.pow_le_pow_right (by decide) hx
    rw [← e] at l1 u1
    rw [Int.mul_left_comm] at u1
    constructor
    · exact Int.nonneg_of_mul_nonneg_right (Int.le_trans l2 l1) hA.1
    · have := Int.le_of_mul_le_mul_left u1 hA.1
      omega
  · rw [if_neg h]; exact ⟨Int.le_refl _, by decide⟩
theorem cd_same {Lx : Nat → List (Nat × Nat)} {px : Nat → Nat} {xz : Nat} {V1 V2 : Nat → Nat → Int} {st x i : Nat} (hok : bOK (Lx i)) (hx : x ≤ 1000) (h : ∀ y, y ≤ 1000 → V1 (st + 2 ^ i) y = V2 (st + 2 ^ i) y) : cdT Lx px xz V1 st x i (Lx i).length = cdT Lx px xz V2 st x i (Lx i).length := by
  have key : ∀ t, t ≤ (Lx i).length → smZ (fun k => V1 (st + 2 ^ i) (if x < ((Lx i).getD k (0, 0)).1 then ((Lx i).getD k (0, 0)).1 else x) * ((((Lx i).getD k (0, 0)).2 : Nat) : Int)) t = smZ (fun k => V2 (st + 2 ^ i) (if x < ((Lx i).getD k (0, 0)).1 then ((Lx i).getD k (0, 0)).1 else x) * ((((Lx i).getD k (0, 0)).2 : Nat) : Int)) t := by
    intro t
    induction t with
    | zero => intro _; rfl
    | succ t ih =>
      intro ht
      have hy := (hok.2 t (by omega)).1
      show smZ _ t + V1 (st + 2 ^ i) (if x < ((Lx i).getD t (0, 0)).1 then ((Lx i).getD t (0, 0)).1 else x) * ((((Lx i).getD t (0, 0)).2 : Nat) : Int) = smZ _ t + V2 (st + 2 ^ i) (if x < ((Lx i).getD t (0, 0)).1 then ((Lx i).getD t (0, 0)).1 else x) * ((((Lx i).getD t (0, 0)).2 : Nat) : Int)
      rw [ih (by omega), h _ (by split <;> omega)]
  unfold cdT
  rw [key _ (Nat.le_refl _)]
theorem bl_same {Lx : Nat → List (Nat × Nat)} {px : Nat → Nat} {xz : Nat} {V1 V2 : Nat → Nat → Int} {st x : Nat} (hok : ∀ i, i < xz → bOK (Lx i)) (hx : x ≤ 1000) (h : ∀ i, i < xz → bBit st i = 0 → ∀ y, y ≤ 1000 → V1 (st + 2 ^ i) y = V2 (st + 2 ^ i) y) : ∀ n, n ≤ xz → blM Lx px xz V1 st x n = blM Lx px xz V2 st x n := by
  intro n
  induction n with
  | zero => intro _; rfl
  | succ n ih =>
    intro hn
    show (if bBit st n = 0 then (if blM Lx px xz V1 st x n < cdT Lx px xz V1 st x n (Lx n).length then cdT Lx px xz V1 st x n (Lx n).length else blM Lx px xz V1 st x n) else blM Lx px xz V1 st x n) = (if bBit st n = 0 then (if blM Lx px xz V2 st x n < cdT Lx px xz V2 st x n (Lx n).length then cdT Lx px xz V2 st x n (Lx n).length else blM Lx px xz V2 st x n) else blM Lx px xz V2 st x n)
    by_cases hb : bBit st n = 0
    · rw [if_pos hb, if_pos hb, ih (by omega), cd_same (V2 := V2) (hok n (by omega)) hx (h n (by omega) hb)]
    · rw [if_neg hb, if_neg hb, ih (by omega)]
theorem bxV_bell {Lx : Nat → List (Nat × Nat)} {px : Nat → Nat} {xz : Nat} {D : Int} {sg : Nat → Int} (hA : FairA Lx px xz D sg) (hx : xz ≤ 6) (hok : ∀ i, i < xz → bOK (Lx i)) : ∀ st, st < 2 ^ xz → ∀ x, x ≤ 1000 → bxV Lx px xz st x = blM Lx px xz (bxV Lx px xz) st x xz := by
  intro st hs x hx1
  have e : bxV Lx px xz st x = blM Lx px xz (opV Lx px xz 6) st x xz := by
    unfold bxV
    rw [if_pos ⟨hs, hx1⟩]; rfl
  rw [e]
  apply bl_same hok hx1 _ xz (Nat.le_refl _)
  intro i hi hb y hy
  have hu := up_bit xz (by omega) i hi st hs hb
  have hz := zb_set xz (by omega) i hi st hs hb
  have hz2 := zb_le st xz
  have e1 := op_EW hA hx 6 (st + 2 ^ i) y hu (by omega)
  have e2 := op_EW hA hx 7 (st + 2 ^ i) y hu (by omega)
  unfold bxV
  rw [if_pos ⟨hu, hy⟩]
  exact Int.eq_of_mul_eq_mul_left (show D ≠ 0 by have := hA.1; omega) (e1.trans e2.symm)
/-- draws one behind another, of the greatest so far -/
def EXd (Lo : Nat → List (Nat × Nat)) : Nat → (Nat → Int) → Int
  | 0, f => f 0
  | d + 1, f => EXd Lo d (fun x => bZ (Lo d) (fun y => f (if x < y then y else x)))
theorem EX_same {Lo : Nat → List (Nat × Nat)} {f h : Nat → Int} (d : Nat) (e : ∀ x, f x = h x) : EXd Lo d f = EXd Lo d h := by rw [show f = h from funext e]
theorem EX_add (Lo : Nat → List (Nat × Nat)) : ∀ d (f h : Nat → Int), EXd Lo d (fun x => f x + h x) = EXd Lo d f + EXd Lo d h := by
  intro d
  induction d with
  | zero => intro f h; rfl
  | succ d ih =>
    intro f h
    show EXd Lo d (fun x => bZ (Lo d) (fun y => f (if x < y then y else x) + h (if x < y then y else x))) = _
    rw [EX_same d (fun x => bZ_add (Lo d) _ _), ih]; rfl
theorem EX_mul (Lo : Nat → List (Nat × Nat)) : ∀ d (c : Int) (f : Nat → Int), EXd Lo d (fun x => c * f x) = c * EXd Lo d f := by
  intro d
  induction d with
  | zero => intro c f; rfl
  | succ d ih =>
    intro c f
    show EXd Lo d (fun x => bZ (Lo d) (fun y => c * f (if x < y then y else x))) = _
    rw [EX_same d (fun x => bZ_mul (Lo d) c _), ih]; rfl
theorem EX_sm (Lo : Nat → List (Nat × Nat)) (d : Nat) (f : Nat → Nat → Int) : ∀ T, EXd Lo d (fun x => smZ (fun t => f t x) T) = smZ (fun t => EXd Lo d (f t)) T := by
  intro T
  induction T with
  | zero =>
    show EXd Lo d (fun _ => 0) = 0
    rw [EX_same d (h := fun x => 0 * (0 : Int)) (fun _ => (Int.zero_mul 0).symm), EX_mul, Int.zero_mul]
  | succ T ih =>
    show EXd Lo d (fun x => smZ (fun t => f t x) T + f T x) = _
    rw [EX_add, ih]; rfl
theorem EX_ind (Lo : Nat → List (Nat × Nat)) (t : Nat) : ∀ d (c : Int), EXd Lo d (fun x => if x ≤ t then c else 0) = c * ((prB Lo ((t + 1 : Nat) : Int) d : Nat) : Int) := by
  intro d
  induction d with
  | zero => intro c; show (if 0 ≤ t then c else 0) = c * ((1 : Nat) : Int); rw [if_pos (Nat.zero_le _), show (((1 : Nat) : Int)) = 1 from rfl, Int.mul_one]
  | succ d ih =>
    intro c
    show EXd Lo d (fun x => bZ (Lo d) (fun y => if (if x < y then y else x) ≤ t then c else 0)) = c * ((prB Lo ((t + 1 : Nat) : Int) d * bBelow (Lo d) ((t + 1 : Nat) : Int) : Nat) : Int)
    rw [EX_same d (h := fun x => if x ≤ t then c * ((bBelow (Lo d) ((t + 1 : Nat) : Int) : Nat) : Int) else 0) (fun x => ?_), ih, Int.natCast_mul, Int.mul_assoc, Int.mul_comm ((bBelow (Lo d) ((t + 1 : Nat) : Int) : Nat) : Int)]
    by_cases h : x ≤ t
    · rw [if_pos h]
      unfold bBelow
      rw [← bZ_nat, ← bZ_mul]
      apply bZ_same
      intro y
      by_cases hy : y ≤ t
      · rw [if_pos (by split <;> omega), if_pos (by omega), show (((1 : Nat) : Int)) = 1 from rfl, Int.mul_one]
      · rw [if_neg (by split <;> omega), if_neg (by omega), show (((0 : Nat) : Int)) = 0 from rfl, Int.mul_zero]
    · rw [if_neg h]
      rw [bZ_same (h := fun _ => 0) (fun y => if_neg (by split <;> omega)), bZ_const, Int.zero_mul]
theorem gn_tel {gn : Nat → Nat} (hg : ∀ t, gn (t + 1) ≤ gn t) (x : Nat) : ∀ T, smZ (fun t => if x ≤ t then ((gn t - gn (t + 1) : Nat) : Int) else 0) T = if x ≤ T then ((gn x : Nat) : Int) - ((gn T : Nat) : Int) else 0 := by
  intro T
  induction T with
  | zero =>
    show (0 : Int) = _
    by_cases h : x ≤ 0
    · rw [if_pos h, show x = 0 from by omega]; omega
    · rw [if_neg h]
  | succ T ih =>
    show smZ _ T + (if x ≤ T then ((gn T - gn (T + 1) : Nat) : Int) else 0) = _
    rw [ih]
    have := hg T
    by_cases h : x ≤ T
    · rw [if_pos h, if_pos h, if_pos (show x ≤ T + 1 by omega)]; omega
    · rw [if_neg h, if_neg h]
      by_cases h2 : x ≤ T + 1
      · rw [if_pos h2, show x = T + 1 from by omega]; omega
      · rw [if_neg h2]; rfl
theorem EX_gn {Lo : Nat → List (Nat × Nat)} {d : Nat} {gn : Nat → Nat} (hg : ∀ t, gn (t + 1) ≤ gn t) (h0 : ∀ x, 1001 ≤ x → gn x = 0) : EXd Lo d (fun x => ((gn x : Nat) : Int)) = ((gS Lo d gn 1001 : Nat) : Int) := by
  rw [EX_same d (h := fun x => smZ (fun t => if x ≤ t then ((gn t - gn (t + 1) : Nat) : Int) else 0) 1001) (fun x => by
    rw [gn_tel hg x 1001, h0 1001 (Nat.le_refl _)]
    by_cases h : x ≤ 1001
    · rw [if_pos h]; show _ = _ - 0; rw [Int.sub_zero]
    · rw [if_neg h, h0 x (by omega)]; rfl), EX_sm Lo d (fun t x => if x ≤ t then ((gn t - gn (t + 1) : Nat) : Int) else 0)]
  have key : ∀ T, smZ (fun t => EXd Lo d (fun x => if x ≤ t then ((gn t - gn (t + 1) : Nat) : Int) else 0)) T = ((gS Lo d gn T : Nat) : Int) := by
    intro T
    induction T with
    | zero => rfl
    | succ T ih =>
      show smZ _ T + EXd Lo d (fun x => if x ≤ T then ((gn T - gn (T + 1) : Nat) : Int) else 0) = ((gS Lo d gn T + prB Lo ((T + 1 : Nat) : Int) d * (gn T - gn (T + 1)) : Nat) : Int)
      rw [ih, EX_ind]
      exact cast_ma _ _ _
  exact key 1001
