/-! ===== pure: the reference's table of sets has the value of the fair bars ===== -/
def FairA (Lx : Nat → List (Nat × Nat)) (px : Nat → Nat) (xz : Nat) (D : Int) (sg : Nat → Int) : Prop := 0 < D ∧ ∀ i, i < xz → bZ (Lx i) (fun x => max 0 (D * (x : Int) - sg i)) = D * ((px i * bE (Lx i) (fun _ => 1) : Nat) : Int)
theorem max_mul {e y : Int} (he : 0 < e) : max 0 (e * y) = e * max 0 y := by
  by_cases h : 0 ≤ y
  · have := Int.mul_nonneg (Int.le_of_lt he) h
    rw [show max 0 y = y from by omega]; omega
  · have : e * y < 0 := Int.mul_neg_of_pos_of_neg he (by omega)
    rw [show max 0 y = 0 from by omega, Int.mul_zero]; omega
theorem pr_dvd (Q : Nat → Nat) : ∀ n i, i < n → Q i ∣ pr Q n := by
  intro n
  induction n with
  | zero => intro i h; exact absurd h (Nat.not_lt_zero _)
  | succ n ih =>
    intro i h
    show Q i ∣ pr Q n * Q n
    by_cases e : i = n
    · rw [e]; exact Nat.dvd_mul_left _ _
    · exact Nat.dvd_trans (ih i (by omega)) (Nat.dvd_mul_right _ _)
def sgF (P : Nat → Int) (Q : Nat → Nat) (xz i : Nat) : Int := P i * ((pr Q xz / Q i : Nat) : Int)
theorem fairA {Lx : Nat → List (Nat × Nat)} {px : Nat → Nat} {P : Nat → Int} {Q : Nat → Nat} {xz : Nat} (hF : ∀ i, i < xz → FairV (Lx i) ((px i * bE (Lx i) (fun _ => 1) : Nat) : Int) (P i) (Q i)) : FairA Lx px xz ((pr Q xz : Nat) : Int) (sgF P Q xz) := by
  have hp : 0 < pr Q xz := pr_pos xz (fun i hi => (hF i hi).1)
  refine ⟨by omega, fun i hi => ?_⟩
  obtain ⟨e, he⟩ := pr_dvd Q xz i hi
  have hQ := (hF i hi).1
  have hep : 0 < e := Nat.pos_of_ne_zero (fun z => by rw [z, Nat.mul_zero] at he; omega)
  have hs := fair_sum (hF i hi) (Int.natCast_nonneg _)
  unfold sgF
  rw [he, Nat.mul_div_cancel_left e hQ, Int.natCast_mul]
  rw [bZ_same (h := fun x => (e : Int) * max 0 ((Q i : Int) * (x : Int) - P i)) (fun x => by
    rw [← max_mul (by omega), Int.mul_sub]
    congr 1
    rw [Int.mul_comm (Q i : Int) (e : Int), Int.mul_assoc, Int.mul_comm (P i)]), bZ_mul, hs, ← Int.mul_assoc, Int.mul_comm (e : Int)]
theorem bell_le {Lx : Nat → List (Nat × Nat)} {px : Nat → Nat} {xz : Nat} {D : Int} {sg : Nat → Int} (hA : FairA Lx px xz D sg) (hx : xz ≤ 6) {st i : Nat} (hi : i < xz) (hs : st < 64) (hb : bBit st i = 0) (m : Int) : bZ (Lx i) (fun x => EW Lx D sg (st + 2 ^ i) xz (max m (D * (x : Int)))) - D * ((px i : Nat) : Int) * ((prS Lx st xz : Nat) : Int) ≤ EW Lx D sg st xz m := by
  obtain ⟨p1, p2⟩ := EW_pull (Lx := Lx) (D := D) (sg := sg) (show i < 6 by omega) hs hb xz hi hx
  rw [p1 m, p2]
  have h1 : bZ (Lx i) (fun x => EW Lx D sg (st + 2 ^ i) xz (max m (D * (x : Int)))) ≤ bZ (Lx i) (fun x => EW Lx D sg (st + 2 ^ i) xz (max m (min (D * (x : Int)) (sg i))) + ((prS Lx (st + 2 ^ i) xz : Nat) : Int) * max 0 (D * (x : Int) - sg i)) := by
    apply bZ_le
    intro x
    have k1 := (EW_lip Lx D sg (st + 2 ^ i) xz (max m (min (D * (x : Int)) (sg i))) (max m (D * (x : Int))) (by omega)).2
    have k2 : ((prS Lx (st + 2 ^ i) xz : Nat) : Int) * (max m (D * (x : Int)) - max m (min (D * (x : Int)) (sg i))) ≤ ((prS Lx (st + 2 ^ i) xz : Nat) : Int) * max 0 (D * (x : Int) - sg i) := Int.mul_le_mul_of_nonneg_left (by omega) (Int.natCast_nonneg _)
    omega
  rw [bZ_add, bZ_mul, hA.2 i hi] at h1
  have e : ((prS Lx (st + 2 ^ i) xz : Nat) : Int) * (D * ((px i * bE (Lx i) (fun _ => 1) : Nat) : Int)) = D * ((px i : Nat) : Int) * ((prS Lx (st + 2 ^ i) xz * bE (Lx i) (fun _ => 1) : Nat) : Int) := by
    rw [Int.natCast_mul, Int.natCast_mul, Int.mul_left_comm, Int.mul_assoc D, Int.mul_left_comm ((px i : Nat) : Int)]
  omega
theorem bell_eq {Lx : Nat → List (Nat × Nat)} {px : Nat → Nat} {xz : Nat} {D : Int} {sg : Nat → Int} (hA : FairA Lx px xz D sg) (hx : xz ≤ 6) {st i : Nat} (hi : i < xz) (hs : st < 64) (hb : bBit st i = 0) {m : Int} (hm : m ≤ sg i) (hg : ∀ j, j < xz → bBit st j = 0 → sg j ≤ sg i) : bZ (Lx i) (fun x => EW Lx D sg (st + 2 ^ i) xz (max m (D * (x : Int)))) - D * ((px i : Nat) : Int) * ((prS Lx st xz : Nat) : Int) = EW Lx D sg st xz m := by
  obtain ⟨p1, p2⟩ := EW_pull (Lx := Lx) (D := D) (sg := sg) (show i < 6 by omega) hs hb xz hi hx
  rw [p1 m, p2]
  have hz : ∀ j, j < xz → bBit (st + 2 ^ i) j = 0 → sg j ≤ sg i := fun j hj hj0 => by
    rw [set_bit i (by omega) st hs hb j (by omega)] at hj0
    by_cases e : j = i
    · rw [if_pos e] at hj0; omega
    · rw [if_neg e] at hj0; exact hg j hj hj0
  have h1 : bZ (Lx i) (fun x => EW Lx D sg (st + 2 ^ i) xz (max m (D * (x : Int)))) = bZ (Lx i) (fun x => EW Lx D sg (st + 2 ^ i) xz (max m (min (D * (x : Int)) (sg i))) + ((prS Lx (st + 2 ^ i) xz : Nat) : Int) * max 0 (D * (x : Int) - sg i)) := by
    apply bZ_same
    intro x
    by_cases c : D * (x : Int) ≤ sg i
    · rw [show min (D * (x : Int)) (sg i) = D * (x : Int) from by omega, show max 0 (D * (x : Int) - sg i) = 0 from by omega, Int.mul_zero, Int.add_zero]
    · rw [show max m (min (D * (x : Int)) (sg i)) = sg i from by omega, show max m (D * (x : Int)) = D * (x : Int) from by omega, show max 0 (D * (x : Int) - sg i) = D * (x : Int) - sg i from by omega, EW_flat xz hz, EW_flat xz (fun j h2 h3 => Int.le_trans (hz j h2 h3) (by omega)), Int.mul_sub]
      omega
  rw [bZ_add, bZ_mul, hA.2 i hi] at h1
  have e : ((prS Lx (st + 2 ^ i) xz : Nat) : Int) * (D * ((px i * bE (Lx i) (fun _ => 1) : Nat) : Int)) = D * ((px i : Nat) : Int) * ((prS Lx (st + 2 ^ i) xz * bE (Lx i) (fun _ => 1) : Nat) : Int) := by
    rw [Int.natCast_mul, Int.natCast_mul, Int.mul_left_comm, Int.mul_assoc D, Int.mul_left_comm ((px i : Nat) : Int)]
  omega
theorem argmax (sg : Nat → Int) (st : Nat) (m : Int) : ∀ n, (∀ i, i < n → bBit st i = 0 → sg i ≤ m) ∨ ∃ i, i < n ∧ bBit st i = 0 ∧ m < sg i ∧ ∀ j, j < n → bBit st j = 0 → sg j ≤ sg i := by
  intro n
  induction n with
  | zero => exact Or.inl (fun i h => absurd h (Nat.not_lt_zero _))
  | succ n ih =>
    by_cases hb : bBit st n = 0
    · rcases ih with h | ⟨i, h1, h2, h3, h4⟩
      · by_cases c : sg n ≤ m
        · exact Or.inl (fun i hi hi0 => if e : i = n then e ▸ c else h i (by omega) hi0)
        · exact Or.inr ⟨n, by omega, hb, by omega, fun j hj hj0 => if e : j = n then (e ▸ Int.le_refl _) else (by have := h j (by omega) hj0; omega)⟩
      · by_cases c : sg n ≤ sg i
        · exact Or.inr ⟨i, by omega, h2, h3, fun j hj hj0 => if e : j = n then e ▸ c else h4 j (by omega) hj0⟩
        · exact Or.inr ⟨n, by omega, hb, by omega, fun j hj hj0 => if e : j = n then (e ▸ Int.le_refl _) else (by have := h4 j (by omega) hj0; omega)⟩
    · rcases ih with h | ⟨i, h1, h2, h3, h4⟩
      · exact Or.inl (fun i hi hi0 => if e : i = n then absurd (e ▸ hi0) hb else h i (by omega) hi0)
      · exact Or.inr ⟨i, by omega, h2, h3, fun j hj hj0 => if e : j = n then absurd (e ▸ hj0) hb else h4 j (by omega) hj0⟩
def zb (st : Nat) : Nat → Nat
  | 0 => 0
  | n + 1 => zb st n + (if bBit st n = 0 then 1 else 0)
theorem zb_none {st : Nat} : ∀ n, zb st n = 0 → ∀ j, j < n → ¬ bBit st j = 0 := by
  intro n
  induction n with
  | zero => intro _ j h; exact absurd h (Nat.not_lt_zero _)
  | succ n ih =>
    intro h j hj
    have h1 : zb st n + (if bBit st n = 0 then 1 else 0) = 0 := h
    by_cases e : j = n
    · intro c; rw [e] at c; rw [if_pos c] at h1; omega
    · exact ih (by omega) j (by omega)
theorem zb_le (st : Nat) : ∀ n, zb st n ≤ n := by
  intro n
  induction n with
  | zero => exact Nat.le_refl _
  | succ n ih => show zb st n + _ ≤ _; split <;> omega
theorem zb_set : ∀ xz, xz < 7 → ∀ i, i < xz → ∀ st, st < 2 ^ xz → bBit st i = 0 → zb (st + 2 ^ i) xz + 1 = zb st xz := by decide +kernel
def opV (Lx : Nat → List (Nat × Nat)) (px : Nat → Nat) (xz : Nat) : Nat → Nat → Nat → Int
  | 0, st, x => 0 + ((prS Lx st xz : Nat) : Int) * ((x : Nat) : Int)
  | f + 1, st, x => blM Lx px xz (opV Lx px xz f) st x xz
theorem mx_D {D : Int} (hD : 0 < D) (x y : Nat) : D * (((if x < y then y else x : Nat) : Nat) : Int) = max (D * (x : Int)) (D * (y : Int)) := by
  by_cases h : x < y
  · rw [if_pos h]
    have := Int.mul_le_mul_of_nonneg_left (show (x : Int) ≤ (y : Int) by omega) (Int.le_of_lt hD)
    omega
  · rw [if_neg h]
    have := Int.mul_le_mul_of_nonneg_left (show (y : Int) ≤ (x : Int) by omega) (Int.le_of_lt hD)
    omega
theorem cd_EW {Lx : Nat → List (Nat × Nat)} {px : Nat → Nat} {xz : Nat} {D : Int} {sg : Nat → Int} {V : Nat → Nat → Int} {st x i : Nat} (hD : 0 < D) (hV : ∀ y, D * V (st + 2 ^ i) y = EW Lx D sg (st + 2 ^ i) xz (D * (y : Int))) : D * cdT Lx px xz V st x i (Lx i).length = bZ (Lx i) (fun y => EW Lx D sg (st + 2 ^ i) xz (max (D * (x : Int)) (D * (y : Int)))) - D * ((px i : Nat) : Int) * ((prS Lx st xz : Nat) : Int) := by
  unfold cdT
  rw [smZ_bZ (Lx i) (fun y => V (st + 2 ^ i) (if x < y then y else x)), Int.mul_add, ← bZ_mul, bZ_same (fun y => by rw [hV, mx_D hD x y]), Int.zero_add]
  have e : D * (((prS Lx st xz : Nat) : Int) * -((px i : Nat) : Int)) = -(D * ((px i : Nat) : Int) * ((prS Lx st xz : Nat) : Int)) := by
    rw [Int.mul_neg, Int.mul_neg, Int.mul_comm ((prS Lx st xz : Nat) : Int), ← Int.mul_assoc]
  rw [e]
  omega
theorem bl_mono (Lx : Nat → List (Nat × Nat)) (px : Nat → Nat) (xz : Nat) (V : Nat → Nat → Int) (st x : Nat) {a b : Nat} (h : a ≤ b) : blM Lx px xz V st x a ≤ blM Lx px xz V st x b := by
  induction b with
  | zero => rw [show a = 0 from by omega]; exact Int.le_refl _
  | succ b ih =>
    by_cases e : a = b + 1
    · rw [e]; exact Int.le_refl _
    · refine Int.le_trans (ih (by omega)) ?_
      show _ ≤ (if bBit st b = 0 then (if blM Lx px xz V st x b < cdT Lx px xz V st x b (Lx b).length then cdT Lx px xz V st x b (Lx b).length else blM Lx px xz V st x b) else blM Lx px xz V st x b)
      split
      · split <;> omega
      · exact Int.le_refl _
theorem cd_le_bl (Lx : Nat → List (Nat × Nat)) (px : Nat → Nat) (xz : Nat) (V : Nat → Nat → Int) (st x : Nat) {i : Nat} (hb : bBit st i = 0) : cdT Lx px xz V st x i (Lx i).length ≤ blM Lx px xz V st x (i + 1) := by
  show _ ≤ (if bBit st i = 0 then (if blM Lx px xz V st x i < cdT Lx px xz V st x i (Lx i).length then cdT Lx px xz V st x i (Lx i).length else blM Lx px xz V st x i) else blM Lx px xz V st x i)
  rw [if_pos hb]
  split <;> omega
theorem op_EW {Lx : Nat → List (Nat × Nat)} {px : Nat → Nat} {xz : Nat} {D : Int} {sg : Nat → Int} (hA : FairA Lx px xz D sg) (hx : xz ≤ 6) : ∀ f st x, st < 2 ^ xz → zb st xz ≤ f → D * opV Lx px xz f st x = EW Lx D sg st xz (D * (x : Int)) := by
  intro f
  induction f with
  | zero =>
    intro st x _ hz
    rw [EW_flat xz (fun j hj hj0 => absurd hj0 (zb_none xz (by omega) j hj))]
    show D * (0 + ((prS Lx st xz : Nat) : Int) * ((x : Nat) : Int)) = _
    rw [Int.zero_add, Int.mul_left_comm]
  | succ f ih =>
    intro st x hs hz
    have h64 := p64 xz (by omega)
    have hV : ∀ i, i < xz → bBit st i = 0 → ∀ y, D * opV Lx px xz f (st + 2 ^ i) y = EW Lx D sg (st + 2 ^ i) xz (D * (y : Int)) := fun i hi hb y => ih (st + 2 ^ i) y (up_bit xz (by omega) i hi st hs hb) (by have := zb_set xz (by omega) i hi st hs hb; omega)
    show D * blM Lx px xz (opV Lx px xz f) st x xz = _
    apply Int.le_antisymm
    · have key : ∀ n, n ≤ xz → D * blM Lx px xz (opV Lx px xz f) st x n ≤ EW Lx D sg st xz (D * (x : Int)) := by
        intro n
        induction n with
        | zero =>
          intro _
          show D * (0 + ((prS Lx st xz : Nat) : Int) * ((x : Nat) : Int)) ≤ _
          rw [Int.zero_add, Int.mul_left_comm]
          exact EW_ge Lx D sg st xz _
        | succ n ihn =>
          intro hn
          show D * (if bBit st n = 0 then (if blM Lx px xz (opV Lx px xz f) st x n < cdT Lx px xz (opV Lx px xz f) st x n (Lx n).length then cdT Lx px xz (opV Lx px xz f) st x n (Lx n).length else blM Lx px xz (opV Lx px xz f) st x n) else blM Lx px xz (opV Lx px xz f) st x n) ≤ _
          by_cases hb : bBit st n = 0
          · rw [if_pos hb]
            split
            · rw [cd_EW hA.1 (hV n (by omega) hb)]
              exact bell_le hA hx (by omega) (by omega) hb _
            · exact ihn (by omega)
          · rw [if_neg hb]; exact ihn (by omega)
      exact key xz (Nat.le_refl _)
    · rcases argmax sg st (D * (x : Int)) xz with h | ⟨i, h1, h2, h3, h4⟩
      · rw [EW_flat xz h]
        have := Int.mul_le_mul_of_nonneg_left (bl_mono Lx px xz (opV Lx px xz f) st x (Nat.zero_le xz)) (Int.le_of_lt hA.1)
        have e : D * blM Lx px xz (opV Lx px xz f) st x 0 = ((prS Lx st xz : Nat) : Int) * (D * (x : Int)) := by
          show D * (0 + ((prS Lx st xz : Nat) : Int) * ((x : Nat) : Int)) = _
          rw [Int.zero_add, Int.mul_left_comm]
        omega
      · have k1 := cd_le_bl Lx px xz (opV Lx px xz f) st x h2
        have k2 := bl_mono Lx px xz (opV Lx px xz f) st x (show i + 1 ≤ xz by omega)
        have k3 := Int.mul_le_mul_of_nonneg_left (Int.le_trans k1 k2) (Int.le_of_lt hA.1)
        rw [cd_EW hA.1 (hV i h1 h2), bell_eq hA hx h1 (by omega) h2 (Int.le_of_lt h3) h4] at k3
        exact k3
