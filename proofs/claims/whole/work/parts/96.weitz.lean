/-! ===== pure: boxes, the best way by fair bars ===== -/
def bZ (L : List (Nat × Nat)) (f : Nat → Int) : Int := (L.map (fun q => (q.2 : Int) * f q.1)).sum
theorem bZ_cons (q : Nat × Nat) (L : List (Nat × Nat)) (f : Nat → Int) : bZ (q :: L) f = (q.2 : Int) * f q.1 + bZ L f := rfl
theorem bZ_same {L : List (Nat × Nat)} {f h : Nat → Int} (e : ∀ x, f x = h x) : bZ L f = bZ L h := by rw [show f = h from funext e]
theorem bZ_add (L : List (Nat × Nat)) (f h : Nat → Int) : bZ L (fun x => f x + h x) = bZ L f + bZ L h := by
  induction L with
  | nil => rfl
  | cons q L ih => rw [bZ_cons, bZ_cons, bZ_cons, ih, Int.mul_add]; omega
theorem bZ_mul (L : List (Nat × Nat)) (c : Int) (f : Nat → Int) : bZ L (fun x => c * f x) = c * bZ L f := by
  induction L with
  | nil => exact (Int.mul_zero c).symm
  | cons q L ih => rw [bZ_cons, bZ_cons, ih, Int.mul_add, Int.mul_left_comm]
theorem bZ_nat (L : List (Nat × Nat)) (f : Nat → Nat) : bZ L (fun x => ((f x : Nat) : Int)) = ((bE L f : Nat) : Int) := by
  induction L with
  | nil => rfl
  | cons q L ih =>
    rw [bZ_cons, ih]
    show _ = ((q.2 * f q.1 + bE L f : Nat) : Int)
    rw [Int.natCast_add, Int.natCast_mul]
theorem bZ_const (L : List (Nat × Nat)) (c : Int) : bZ L (fun _ => c) = c * ((bE L (fun _ => 1) : Nat) : Int) := by
  rw [← bZ_nat, ← bZ_mul]
  exact bZ_same (fun _ => by rw [show (((1 : Nat) : Int)) = 1 from rfl, Int.mul_one])
theorem bZ_le {L : List (Nat × Nat)} {f h : Nat → Int} (e : ∀ x, f x ≤ h x) : bZ L f ≤ bZ L h := by
  induction L with
  | nil => exact Int.le_refl _
  | cons q L ih =>
    rw [bZ_cons, bZ_cons]
    have := Int.mul_le_mul_of_nonneg_left (e q.1) (Int.natCast_nonneg q.2)
    omega
theorem bZ_swap (L K : List (Nat × Nat)) (f : Nat → Nat → Int) : bZ L (fun x => bZ K (fun y => f x y)) = bZ K (fun y => bZ L (fun x => f x y)) := by
  induction L with
  | nil => show (0 : Int) = bZ K (fun _ => 0); rw [bZ_const, Int.zero_mul]
  | cons q L ih =>
    rw [bZ_cons, ih, ← bZ_mul, ← bZ_add]
    exact bZ_same (fun y => (bZ_cons q L (fun x => f x y)).symm)
theorem bZ_step : ∀ (L : List (Nat × Nat)) (t : Nat), t < L.length → ∀ f : Nat → Int, bZ (L.take (t + 1)) f = bZ (L.take t) f + f (L.getD t (0, 0)).1 * (((L.getD t (0, 0)).2 : Nat) : Int)
  | [], t, h, f => absurd h (Nat.not_lt_zero _)
  | q :: L, 0, h, f => by
    show (q.2 : Int) * f q.1 + 0 = 0 + f q.1 * (q.2 : Int)
    rw [Int.mul_comm]; omega
  | q :: L, t + 1, h, f => by
    have e := bZ_step L t (Nat.lt_of_succ_lt_succ h) f
    show (q.2 : Int) * f q.1 + bZ (L.take (t + 1)) f = (q.2 : Int) * f q.1 + bZ (L.take t) f + f (L.getD t (0, 0)).1 * (((L.getD t (0, 0)).2 : Nat) : Int)
    rw [e]; omega
theorem smZ_bZ (L : List (Nat × Nat)) (f : Nat → Int) : smZ (fun k => f (L.getD k (0, 0)).1 * (((L.getD k (0, 0)).2 : Nat) : Int)) L.length = bZ L f := by
  have key : ∀ t, t ≤ L.length → smZ (fun k => f (L.getD k (0, 0)).1 * (((L.getD k (0, 0)).2 : Nat) : Int)) t = bZ (L.take t) f := by
    intro t
    induction t with
    | zero => intro _; rfl
    | succ t ih =>
      intro ht
      rw [bZ_step L t (by omega), ← ih (by omega)]; rfl
  have := key L.length (Nat.le_refl _)
  rwa [List.take_length] at this
/-- a box' fair bar: what the worths are above it, all weights over, is the cost -/
theorem fair_sum {L : List (Nat × Nat)} {cost P : Int} {Q : Nat} (hF : FairV L cost P Q) (hc : 0 ≤ cost) : bZ L (fun x => max 0 ((Q : Int) * (x : Int) - P)) = (Q : Int) * cost := by
  obtain ⟨hQ, hall, b0, hb1, hb2⟩ := hF
  have lin : ∀ c : Nat, bZ L (fun x => if c ≤ x then (Q : Int) * (x : Int) - P else 0) = (Q : Int) * ((bGath L ((c : Nat) : Int) : Nat) : Int) - P * ((bGe L c : Nat) : Int) := by
    intro c
    have e1 : (Q : Int) * ((bGath L ((c : Nat) : Int) : Nat) : Int) = bZ L (fun x => (Q : Int) * (((if ((c : Nat) : Int) ≤ (x : Int) then x else 0 : Nat) : Nat) : Int)) := by
      rw [bZ_mul, bZ_nat]; rfl
    have e2 : P * ((bGe L c : Nat) : Int) = bZ L (fun x => P * (((if c ≤ x then 1 else 0 : Nat) : Nat) : Int)) := by
      rw [bZ_mul, bZ_nat]; rfl
    have e3 : bZ L (fun x => if c ≤ x then (Q : Int) * (x : Int) - P else 0) + P * ((bGe L c : Nat) : Int) = (Q : Int) * ((bGath L ((c : Nat) : Int) : Nat) : Int) := by
      rw [e1, e2, ← bZ_add]
      apply bZ_same
      intro x
      by_cases h : c ≤ x
      · rw [if_pos h, if_pos (show ((c : Nat) : Int) ≤ (x : Int) by omega), if_pos h, show (((1 : Nat) : Int)) = 1 from rfl, Int.mul_one]; omega
      · rw [if_neg h, if_neg (show ¬ ((c : Nat) : Int) ≤ (x : Int) by omega), if_neg h, show (((0 : Nat) : Int)) = 0 from rfl, Int.mul_zero, Int.mul_zero]; rfl
    omega
  apply Int.le_antisymm
  · obtain ⟨c, hcc⟩ : ∃ c : Nat, ∀ x : Nat, c ≤ x ↔ 0 < (Q : Int) * (x : Int) - P := by
      refine ⟨(P / (Q : Int) + 1).toNat, fun x => ?_⟩
      have hd := Int.ediv_lt_iff_lt_mul (a := P) (b := (x : Int)) (c := (Q : Int)) (by omega)
      rw [Int.mul_comm] at hd
      constructor
      · intro h; have := hd.mp (by omega); omega
      · intro h; have := hd.mpr (by omega); omega
    have e : bZ L (fun x => max 0 ((Q : Int) * (x : Int) - P)) = bZ L (fun x => if c ≤ x then (Q : Int) * (x : Int) - P else 0) := by
      apply bZ_same
      intro x
      have := hcc x
      by_cases h : c ≤ x
      · rw [if_pos h]; have := this.mp h; omega
      · rw [if_neg h]; have : ¬ 0 < (Q : Int) * (x : Int) - P := fun q => h (this.mpr q); omega
    rw [e, lin c]
    by_cases hg : 0 < bGe L c
    · have := hall c hg
      rw [Int.sub_mul] at this
      rw [Int.mul_comm (Q : Int), Int.mul_comm (Q : Int) cost]
      omega
    · rw [show bGe L c = 0 from by omega, ge0_gath (show bGe L c = 0 by omega)]
      have := Int.mul_nonneg (Int.natCast_nonneg Q) hc
      rw [show (((0 : Nat) : Int)) = 0 from rfl, Int.mul_zero, Int.mul_zero]
      omega
  · have h1 : bZ L (fun x => if b0 ≤ x then (Q : Int) * (x : Int) - P else 0) ≤ bZ L (fun x => max 0 ((Q : Int) * (x : Int) - P)) := bZ_le (fun x => by split <;> omega)
    rw [lin b0, hb1] at h1
    have e : (Q : Int) * ((bGath L ((b0 : Nat) : Int) : Nat) : Int) - P * (Q : Int) = (Q : Int) * cost := by
      rw [hb2, Int.sub_mul, Int.mul_comm (Q : Int), Int.mul_comm (Q : Int) cost]; omega
    omega
def EW (Lx : Nat → List (Nat × Nat)) (D : Int) (sg : Nat → Int) (st : Nat) : Nat → Int → Int
  | 0, m => m
  | n + 1, m => if bBit st n = 0 then bZ (Lx n) (fun x => EW Lx D sg st n (max m (min (D * (x : Int)) (sg n)))) else EW Lx D sg st n m
theorem EW_in {Lx : Nat → List (Nat × Nat)} {D : Int} {sg : Nat → Int} {st n : Nat} (h : bBit st n = 0) (m : Int) : EW Lx D sg st (n + 1) m = bZ (Lx n) (fun x => EW Lx D sg st n (max m (min (D * (x : Int)) (sg n)))) := if_pos h
theorem EW_out {Lx : Nat → List (Nat × Nat)} {D : Int} {sg : Nat → Int} {st n : Nat} (h : ¬ bBit st n = 0) (m : Int) : EW Lx D sg st (n + 1) m = EW Lx D sg st n m := if_neg h
theorem prS_in {Lx : Nat → List (Nat × Nat)} {st n : Nat} (h : bBit st n = 0) : prS Lx st (n + 1) = prS Lx st n * bE (Lx n) (fun _ => 1) := if_pos h
theorem prS_out {Lx : Nat → List (Nat × Nat)} {st n : Nat} (h : ¬ bBit st n = 0) : prS Lx st (n + 1) = prS Lx st n := if_neg h
theorem EW_lip (Lx : Nat → List (Nat × Nat)) (D : Int) (sg : Nat → Int) (st : Nat) : ∀ n a b, a ≤ b → EW Lx D sg st n a ≤ EW Lx D sg st n b ∧ EW Lx D sg st n b ≤ EW Lx D sg st n a + ((prS Lx st n : Nat) : Int) * (b - a) := by
  intro n
  induction n with
  | zero => intro a b h; exact ⟨h, by show b ≤ a + ((1 : Nat) : Int) * (b - a); rw [show (((1 : Nat) : Int)) = 1 from rfl, Int.one_mul]; omega⟩
  | succ n ih =>
    intro a b h
    by_cases hb : bBit st n = 0
    · rw [EW_in hb, EW_in hb, prS_in hb]
      constructor
      · exact bZ_le (fun x => (ih _ _ (by omega)).1)
      · have h1 : bZ (Lx n) (fun x => EW Lx D sg st n (max b (min (D * (x : Int)) (sg n)))) ≤ bZ (Lx n) (fun x => EW Lx D sg st n (max a (min (D * (x : Int)) (sg n))) + ((prS Lx st n : Nat) : Int) * (b - a)) := by
          apply bZ_le
          intro x
          have k1 := (ih (max a (min (D * (x : Int)) (sg n))) (max b (min (D * (x : Int)) (sg n))) (by omega)).2
          have k2 : ((prS Lx st n : Nat) : Int) * (max b (min (D * (x : Int)) (sg n)) - max a (min (D * (x : Int)) (sg n))) ≤ ((prS Lx st n : Nat) : Int) * (b - a) := Int.mul_le_mul_of_nonneg_left (by omega) (Int.natCast_nonneg _)
          omega
        rw [bZ_add, bZ_const] at h1
        rw [Int.natCast_mul, Int.mul_right_comm]
        exact h1
    · rw [EW_out hb, EW_out hb, prS_out hb]; exact ih a b h
theorem EW_ge (Lx : Nat → List (Nat × Nat)) (D : Int) (sg : Nat → Int) (st : Nat) : ∀ n m, ((prS Lx st n : Nat) : Int) * m ≤ EW Lx D sg st n m := by
  intro n
  induction n with
  | zero => intro m; show ((1 : Nat) : Int) * m ≤ m; rw [show (((1 : Nat) : Int)) = 1 from rfl, Int.one_mul]; exact Int.le_refl _
  | succ n ih =>
    intro m
    by_cases hb : bBit st n = 0
    · rw [EW_in hb, prS_in hb]
      have h1 : bZ (Lx n) (fun _ => ((prS Lx st n : Nat) : Int) * m) ≤ bZ (Lx n) (fun x => EW Lx D sg st n (max m (min (D * (x : Int)) (sg n)))) := bZ_le (fun x => Int.le_trans (ih m) (EW_lip Lx D sg st n m _ (by omega)).1)
      rw [bZ_const] at h1
      rw [Int.natCast_mul, Int.mul_right_comm]
      exact h1
    · rw [EW_out hb, prS_out hb]; exact ih m
theorem EW_flat {Lx : Nat → List (Nat × Nat)} {D : Int} {sg : Nat → Int} {st : Nat} {m : Int} : ∀ n, (∀ j, j < n → bBit st j = 0 → sg j ≤ m) → EW Lx D sg st n m = ((prS Lx st n : Nat) : Int) * m := by
  intro n
  induction n with
  | zero => intro _; show m = ((1 : Nat) : Int) * m; rw [show (((1 : Nat) : Int)) = 1 from rfl, Int.one_mul]
  | succ n ih =>
    intro h
    by_cases hb : bBit st n = 0
    · rw [EW_in hb, prS_in hb]
      have hs := h n (by omega) hb
      rw [bZ_same (h := fun _ => ((prS Lx st n : Nat) : Int) * m) (fun x => by rw [show max m (min (D * (x : Int)) (sg n)) = m from by omega]; exact ih (fun j hj => h j (by omega))), bZ_const, Int.natCast_mul, Int.mul_right_comm]
    · rw [EW_out hb, prS_out hb]; exact ih (fun j hj => h j (by omega))
theorem set_bit : ∀ i, i < 6 → ∀ st, st < 64 → bBit st i = 0 → ∀ j, j < 6 → bBit (st + 2 ^ i) j = if j = i then 1 else bBit st j := by decide +kernel
theorem EW_same {Lx : Nat → List (Nat × Nat)} {D : Int} {sg : Nat → Int} {s1 s2 : Nat} : ∀ n, (∀ j, j < n → bBit s1 j = bBit s2 j) → ∀ m, EW Lx D sg s1 n m = EW Lx D sg s2 n m := by
  intro n
  induction n with
  | zero => intro _ m; rfl
  | succ n ih =>
    intro h m
    have hn := h n (by omega)
    by_cases hb : bBit s1 n = 0
    · rw [EW_in hb, EW_in (hn ▸ hb)]
      exact bZ_same (fun x => ih (fun j hj => h j (by omega)) _)
    · rw [EW_out hb, EW_out (by rw [← hn]; exact hb)]; exact ih (fun j hj => h j (by omega)) m
theorem prS_same {Lx : Nat → List (Nat × Nat)} {s1 s2 : Nat} : ∀ n, (∀ j, j < n → bBit s1 j = bBit s2 j) → prS Lx s1 n = prS Lx s2 n := by
  intro n
  induction n with
  | zero => intro _; rfl
  | succ n ih =>
    intro h
    have hn := h n (by omega)
    by_cases hb : bBit s1 n = 0
    · rw [prS_in hb, prS_in (hn ▸ hb), ih (fun j hj => h j (by omega))]
    · rw [prS_out hb, prS_out (by rw [← hn]; exact hb), ih (fun j hj => h j (by omega))]
/-- any box may be drawn first -/
theorem EW_pull {Lx : Nat → List (Nat × Nat)} {D : Int} {sg : Nat → Int} {st i : Nat} (hi : i < 6) (hs : st < 64) (hb : bBit st i = 0) : ∀ n, i < n → n ≤ 6 → (∀ m, EW Lx D sg st n m = bZ (Lx i) (fun x => EW Lx D sg (st + 2 ^ i) n (max m (min (D * (x : Int)) (sg i))))) ∧ prS Lx st n = prS Lx (st + 2 ^ i) n * bE (Lx i) (fun _ => 1) := by
  intro n
  induction n with
  | zero => intro h; exact absurd h (Nat.not_lt_zero _)
  | succ n ih =>
    intro h1 h2
    have hbn := set_bit i hi st hs hb n (by omega)
    by_cases e : i = n
    · subst e
      rw [if_pos rfl] at hbn
      have hlow : ∀ j, j < i → bBit st j = bBit (st + 2 ^ i) j := fun j hj => by rw [set_bit i hi st hs hb j (by omega), if_neg (by omega)]
      refine ⟨fun m => ?_, ?_⟩
      · rw [EW_in hb]
        exact bZ_same (fun x => by rw [EW_out (by omega)]; exact EW_same i hlow _)
      · rw [prS_in hb, prS_out (show ¬ bBit (st + 2 ^ i) i = 0 by omega), prS_same i hlow]
    · rw [if_neg (by omega)] at hbn
      obtain ⟨i1, i2⟩ := ih (by omega) (by omega)
      by_cases hc : bBit st n = 0
      · refine ⟨fun m => ?_, ?_⟩
        · rw [EW_in hc, bZ_same (fun y => i1 _), bZ_swap]
          apply bZ_same
          intro x
          rw [EW_in (by rw [hbn]; exact hc)]
          apply bZ_same
          intro y
          congr 1
          omega
        · rw [prS_in hc, prS_in (show bBit (st + 2 ^ i) n = 0 by rw [hbn]; exact hc), i2, Nat.mul_right_comm]
      · refine ⟨fun m => ?_, ?_⟩
        · rw [EW_out hc, i1]
          exact bZ_same (fun x => by rw [EW_out (by rw [hbn]; exact hc)])
        · rw [prS_out hc, prS_out (show ¬ bBit (st + 2 ^ i) n = 0 by rw [hbn]; exact hc), i2]
