theorem sm_add (f h : Nat → Nat) (k : Nat) : sm (fun j => f j + h j) k = sm f k + sm h k := by
  induction k with
  | zero => rfl
  | succ k ih => show sm (fun j => f j + h j) k + (f k + h k) = (sm f k + f k) + (sm h k + h k); rw [ih]; omega
theorem sm_mul (c : Nat) (f : Nat → Nat) (k : Nat) : sm (fun j => c * f j) k = c * sm f k := by
  induction k with
  | zero => rfl
  | succ k ih => show sm (fun j => c * f j) k + c * f k = c * (sm f k + f k); rw [ih, Nat.mul_add]
/-- what a comer is worth with a yes left: the better of yes and no, over its draws -/
def bMax (L : List (Nat × Nat)) (ya al no : Nat) : Nat := bE L (fun x => if no ≤ ya + al * x then ya + al * x else no)
theorem ch_val {E : wE} {A : Nat → Nat} {g : Nat → va_E} {i : Nat} {L : List (Nat × Nat)} (hV : BookV E A g i L) {ya al no b : Nat} (hb : LB L ya al no b) : no * bBelow L ((b : Nat) : Int) + ya * (bE L (fun _ => 1) - bBelow L ((b : Nat) : Int)) + al * bGath L ((b : Nat) : Int) = bMax L ya al no := by
  obtain ⟨bz, wo, we, tot, _, hp⟩ := hV
  have e1 : sm (fun k => we k * (if ((wo k : Nat) : Int) < ((b : Nat) : Int) then 1 else 0)) bz = bBelow L ((b : Nat) : Int) := hp.2.2.1 (fun x => if (x : Int) < ((b : Nat) : Int) then 1 else 0)
  have e2 : sm (fun k => we k * (if ((b : Nat) : Int) ≤ ((wo k : Nat) : Int) then 1 else 0)) bz = bE L (fun x => if ((b : Nat) : Int) ≤ (x : Int) then 1 else 0) := hp.2.2.1 (fun x => if ((b : Nat) : Int) ≤ (x : Int) then 1 else 0)
  have e3 : sm (fun k => we k * (if ((b : Nat) : Int) ≤ ((wo k : Nat) : Int) then wo k else 0)) bz = bGath L ((b : Nat) : Int) := hp.2.2.1 (fun x => if ((b : Nat) : Int) ≤ (x : Int) then x else 0)
  have e4 : sm (fun k => we k * 1) bz = bE L (fun _ => 1) := hp.2.2.1 (fun _ => 1)
  have e5 : sm (fun k => we k * (if no ≤ ya + al * wo k then ya + al * wo k else no)) bz = bMax L ya al no := hp.2.2.1 (fun x => if no ≤ ya + al * x then ya + al * x else no)
  have e6 : bBelow L ((b : Nat) : Int) + bE L (fun x => if ((b : Nat) : Int) ≤ (x : Int) then 1 else 0) = bE L (fun _ => 1) := by
    rw [← e1, ← e2, ← e4, ← sm_add]
    apply sm_congr
    intro j hj
    by_cases q : ((wo j : Nat) : Int) < ((b : Nat) : Int)
    · rw [if_pos q, if_neg (by omega), Nat.mul_zero, Nat.add_zero]
    · rw [if_neg q, if_pos (by omega), Nat.mul_zero, Nat.zero_add]
  have e7 : bE L (fun _ => 1) - bBelow L ((b : Nat) : Int) = bE L (fun x => if ((b : Nat) : Int) ≤ (x : Int) then 1 else 0) := by omega
  rw [e7, ← e5, ← e1, ← e2, ← e3, ← sm_mul, ← sm_mul, ← sm_mul, ← sm_add, ← sm_add]
  apply sm_congr
  intro j hj
  have hm := mass_at hp hj
  by_cases q : ((wo j : Nat) : Int) < ((b : Nat) : Int)
  · have := hb.1 (wo j) hm (by omega)
    rw [if_pos q, if_neg (by omega), if_neg (by omega), if_neg (by omega), Nat.mul_zero, Nat.mul_zero, Nat.mul_zero, Nat.mul_one, Nat.add_zero, Nat.mul_comm]
  · have := hb.2.1 (wo j) hm (by omega)
    rw [if_neg q, if_pos (by omega), if_pos (by omega), if_pos (by omega), Nat.mul_zero, Nat.mul_zero, Nat.zero_add, Nat.mul_one, Nat.mul_add, Nat.mul_comm ya, Nat.mul_left_comm al]
theorem bMax_le {E : wE} {A : Nat → Nat} {g : Nat → va_E} {i : Nat} {L : List (Nat × Nat)} (hV : BookV E A g i L) {ya al no M : Nat} (h1 : no ≤ M) (h2 : ya + al * 1000 ≤ M) : bMax L ya al no ≤ M * 8000 := by
  obtain ⟨bz, wo, we, tot, _, hp⟩ := hV
  have := bE_le_tot hp (f := fun x => if no ≤ ya + al * x then ya + al * x else no) (M := M) (fun k hk => by
    have h3 := (hp.2.1 k hk).2
    have h4 : al * wo k ≤ al * 1000 := Nat.mul_le_mul_left _ h3
    show (if no ≤ ya + al * wo k then ya + al * wo k else no) ≤ M
    split <;> omega) bz (Nat.le_refl _)
  have e5 : sm (fun k => we k * (if no ≤ ya + al * wo k then ya + al * wo k else no)) bz = bMax L ya al no := hp.2.2.1 (fun x => if no ≤ ya + al * x then ya + al * x else no)
  rw [← e5]; exact this
/-- behind d comers from the last: the worth with y yeses left, of K at most -/
def chN (Lk : Nat → List (Nat × Nat)) (cz K : Nat) : Nat → Nat → Nat
  | 0, _ => 0
  | d + 1, y => if 1 ≤ y ∧ y ≤ K then bMax (Lk (cz - 1 - d)) (chN Lk cz K d (y - 1)) (foA Lk cz d) (chN Lk cz K d y) else 0
theorem chN_out {Lk : Nat → List (Nat × Nat)} {cz K d y : Nat} (h : ¬ (1 ≤ y ∧ y ≤ K)) : chN Lk cz K d y = 0 := by
  cases d with
  | zero => rfl
  | succ d => show (if _ then _ else _) = 0; rw [if_neg h]
theorem chN_le {E : wE} {A : Nat → Nat} {g : Nat → va_E} {n cz K : Nat} {bc : Nat → Nat} {Lk : Nat → List (Nat × Nat)} (hB : BksV E A g n cz bc Lk) : ∀ d, d ≤ cz → ∀ y, chN Lk cz K d y ≤ d * 1000 * 8000 ^ d := by
  intro d
  induction d with
  | zero => intro _ y; exact Nat.zero_le _
  | succ d ih =>
    intro hd y
    by_cases h : 1 ≤ y ∧ y ≤ K
    · have e : chN Lk cz K (d + 1) y = bMax (Lk (cz - 1 - d)) (chN Lk cz K d (y - 1)) (foA Lk cz d) (chN Lk cz K d y) := by show (if _ then _ else _) = _; rw [if_pos h]
      have h1 := ih (by omega) y
      have h2 := ih (by omega) (y - 1)
      have h3 := foA_le (cz := cz) (fun k hk => (hB k hk).2.tot) d (by omega)
      have h4 : foA Lk cz d * 1000 ≤ 8000 ^ d * 1000 := Nat.mul_le_mul_right _ h3
      have h5 := bMax_le (hB (cz - 1 - d) (by omega)).2 (ya := chN Lk cz K d (y - 1)) (al := foA Lk cz d) (no := chN Lk cz K d y) (M := d * 1000 * 8000 ^ d + 8000 ^ d * 1000) (by omega) (by omega)
      have e1 : (d + 1) * 1000 * 8000 ^ (d + 1) = (d * 1000 * 8000 ^ d + 8000 ^ d * 1000) * 8000 := by
        rw [Nat.pow_succ, ← Nat.mul_assoc, Nat.add_mul d 1 1000, Nat.add_mul, Nat.one_mul, Nat.mul_comm 1000 (8000 ^ d)]
      rw [e, e1]; exact h5
    · rw [chN_out h]; exact Nat.zero_le _
