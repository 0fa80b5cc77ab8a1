/-! ===== pure: some bar brings half of what foresight brings ===== -/
theorem bE_le_on {L : List (Nat × Nat)} {f h : Nat → Nat} (e : ∀ k, k < L.length → f (L.getD k (0, 0)).1 ≤ h (L.getD k (0, 0)).1) : bE L f ≤ bE L h := by
  have hs : ∀ t, t ≤ L.length → bE (L.take t) f ≤ bE (L.take t) h := by
    intro t
    induction t with
    | zero => intro _; exact Nat.le_refl _
    | succ t ih =>
      intro ht
      rw [bE_step L t (by omega), bE_step L t (by omega)]
      exact Nat.add_le_add (ih (by omega)) (Nat.mul_le_mul_left _ (e t (by omega)))
  have := hs L.length (Nat.le_refl _)
  rwa [List.take_length] at this
theorem bE_const (L : List (Nat × Nat)) (c : Nat) : bE L (fun _ => c) = c * bE L (fun _ => 1) := by
  rw [← bE_mul]
  exact bE_same (fun _ => (Nat.mul_one c).symm)
theorem bE_sm (L : List (Nat × Nat)) (f : Nat → Nat → Nat) (T : Nat) : bE L (fun x => sm (fun t => f x t) T) = sm (fun t => bE L (fun x => f x t)) T := by
  induction T with
  | zero => show bE L (fun _ => 0) = 0; rw [bE_const, Nat.zero_mul]
  | succ T ih =>
    show bE L (fun x => sm (fun t => f x t) T + f x T) = sm (fun t => bE L (fun x => f x t)) T + bE L (fun x => f x T)
    rw [bE_add, ih]
/-- products from behind -/
def sfP (f : Nat → Nat) (cz : Nat) : Nat → Nat
  | 0 => 1
  | d + 1 => sfP f cz d * f (cz - 1 - d)
theorem sfP_pr (f : Nat → Nat) (cz : Nat) : sfP f cz cz = pr f cz := by
  have key : ∀ d, d ≤ cz → sfP f cz d * pr f (cz - d) = pr f cz := by
    intro d
    induction d with
    | zero => intro _; show 1 * _ = _; rw [Nat.one_mul]; rfl
    | succ d ih =>
      intro hd
      rw [← ih (by omega)]
      obtain ⟨t, ht⟩ : ∃ t, cz - d = t + 1 := ⟨cz - d - 1, by omega⟩
      rw [ht, show cz - (d + 1) = t from by omega]
      show sfP f cz d * f (cz - 1 - d) * pr f t = sfP f cz d * (pr f t * f t)
      rw [show cz - 1 - d = t from by omega, Nat.mul_assoc, Nat.mul_comm (pr f t)]
  have e := key cz (Nat.le_refl _)
  rw [Nat.sub_self] at e
  rw [← e]
  show _ = _ * 1
  rw [Nat.mul_one]
theorem sfP_le {f h : Nat → Nat} {cz : Nat} (e : ∀ k, f k ≤ h k) : ∀ d, sfP f cz d ≤ sfP h cz d := by
  intro d
  induction d with
  | zero => exact Nat.le_refl _
  | succ d ih => exact Nat.mul_le_mul ih (e _)
theorem foA_sf (Lk : Nat → List (Nat × Nat)) (cz : Nat) : ∀ d, foA Lk cz d = sfP (fun k => bE (Lk k) (fun _ => 1)) cz d := by
  intro d
  induction d with
  | zero => rfl
  | succ d ih => show foA Lk cz d * _ = sfP _ cz d * _; rw [ih]
def qT (Lk : Nat → List (Nat × Nat)) (cz t d : Nat) : Nat := sfP (fun k => bBelow (Lk k) ((t + 1 : Nat) : Int)) cz d
theorem qT_le (Lk : Nat → List (Nat × Nat)) (cz t d : Nat) : qT Lk cz t d ≤ foA Lk cz d := by
  rw [foA_sf]
  exact sfP_le (fun k => below_tot _ _) d
/-- what the greatest of m and of the last d draws is, all weights over -/
def exF (Lk : Nat → List (Nat × Nat)) (cz d m : Nat) : Nat := sm (fun t => foA Lk cz d - (if m ≤ t then qT Lk cz t d else 0)) 1000
theorem cut_sum {L : List (Nat × Nat)} {a q m t : Nat} (hq : q ≤ a) : bE L (fun x => a - (if (if m < x then x else m) ≤ t then q else 0)) = a * bE L (fun _ => 1) - (if m ≤ t then q * bBelow L ((t + 1 : Nat) : Int) else 0) := by
  by_cases h : m ≤ t
  · rw [if_pos h]
    have e : bE L (fun x => a - (if (if m < x then x else m) ≤ t then q else 0)) + q * bBelow L ((t + 1 : Nat) : Int) = a * bE L (fun _ => 1) := by
      unfold bBelow
      rw [← bE_mul, ← bE_add, ← bE_mul]
      apply bE_same
      intro x
      by_cases c1 : x ≤ t
      · rw [if_pos (show (if m < x then x else m) ≤ t by split <;> omega), if_pos (show (x : Int) < ((t + 1 : Nat) : Int) by omega)]
        omega
      · rw [if_neg (show ¬ (if m < x then x else m) ≤ t by split <;> omega), if_neg (show ¬ (x : Int) < ((t + 1 : Nat) : Int) by omega)]
        omega
    omega
  · rw [if_neg h, Nat.sub_zero, ← bE_const]
    apply bE_same
    intro x
    rw [if_neg (by split <;> omega), Nat.sub_zero]
theorem exF_step (Lk : Nat → List (Nat × Nat)) (cz d m : Nat) : exF Lk cz (d + 1) m = bE (Lk (cz - 1 - d)) (fun x => exF Lk cz d (if m < x then x else m)) := by
  unfold exF
  rw [bE_sm]
  apply sm_congr
  intro t _
  rw [cut_sum (qT_le Lk cz t d)]
  show foA Lk cz d * bE (Lk (cz - 1 - d)) (fun _ => 1) - (if m ≤ t then qT Lk cz t d * bBelow (Lk (cz - 1 - d)) ((t + 1 : Nat) : Int) else 0) = _
  rfl
theorem exF_0 (Lk : Nat → List (Nat × Nat)) (cz : Nat) {m : Nat} (h : m ≤ 1000) : exF Lk cz 0 m = m := by
  have key : ∀ T, sm (fun t => 1 - (if m ≤ t then 1 else 0)) T = if m ≤ T then m else T := by
    intro T
    induction T with
    | zero => show 0 = _; split <;> omega
    | succ T ih =>
      show sm _ T + (1 - (if m ≤ T then 1 else 0)) = _
      rw [ih]
      by_cases e : m ≤ T
      · rw [if_pos e, if_pos e, if_pos (show m ≤ T + 1 by omega)]; omega
      · rw [if_neg e, if_neg e]
        by_cases e2 : m ≤ T + 1
        · rw [if_pos e2]; omega
        · rw [if_neg e2]
  show sm (fun t => 1 - (if m ≤ t then 1 else 0)) 1000 = m
  rw [key, if_pos h]
theorem exF_all (Lk : Nat → List (Nat × Nat)) (cz : Nat) : exF Lk cz cz 0 = foS Lk cz 1000 := by
  unfold exF foS
  apply sm_congr
  intro t _
  rw [if_pos (Nat.zero_le _), foA_pr]
  show _ - sfP _ cz cz = _ - pr _ cz
  rw [sfP_pr]
def uN (L : List (Nat × Nat)) (D2 Ex : Nat) : Nat := bE L (fun x => D2 * x - Ex)
def rN (Lk : Nat → List (Nat × Nat)) (cz D2 Ex : Nat) : Nat → Nat
  | 0 => 0
  | d + 1 => rN Lk cz D2 Ex d * bE (Lk (cz - 1 - d)) (fun _ => 1) + foA Lk cz d * uN (Lk (cz - 1 - d)) D2 Ex
theorem ex_le {Lk : Nat → List (Nat × Nat)} {cz : Nat} (hok : ∀ k, k < cz → bOK (Lk k)) (D2 Ex : Nat) : ∀ d, d ≤ cz → ∀ m, m ≤ 1000 → D2 * exF Lk cz d m ≤ Ex * foA Lk cz d + foA Lk cz d * (D2 * m - Ex) + rN Lk cz D2 Ex d := by
  intro d
  induction d with
  | zero =>
    intro _ m hm
    rw [exF_0 Lk cz hm]
    show D2 * m ≤ Ex * 1 + 1 * (D2 * m - Ex) + 0
    omega
  | succ d ih =>
    intro hd m hm
    rw [exF_step, ← bE_mul]
    have h1 : bE (Lk (cz - 1 - d)) (fun x => D2 * exF Lk cz d (if m < x then x else m)) ≤ bE (Lk (cz - 1 - d)) (fun x => (Ex * foA Lk cz d + foA Lk cz d * (D2 * m - Ex) + rN Lk cz D2 Ex d) + foA Lk cz d * (D2 * x - Ex)) := by
      apply bE_le_on
      intro k hk
      have hx := ((hok (cz - 1 - d) (by omega)).2 k hk).1
      generalize ((Lk (cz - 1 - d)).getD k (0, 0)).1 = x at hx ⊢
      by_cases c1 : m < x
      · rw [if_pos c1]
        have := ih (by omega) x hx
        omega
      · rw [if_neg c1]
        have := ih (by omega) m hm
        omega
    refine Nat.le_trans h1 ?_
    rw [bE_add, bE_const, bE_mul]
    show _ ≤ Ex * (foA Lk cz d * bE (Lk (cz - 1 - d)) (fun _ => 1)) + foA Lk cz d * bE (Lk (cz - 1 - d)) (fun _ => 1) * (D2 * m - Ex) + (rN Lk cz D2 Ex d * bE (Lk (cz - 1 - d)) (fun _ => 1) + foA Lk cz d * uN (Lk (cz - 1 - d)) D2 Ex)
    unfold uN
    generalize bE (Lk (cz - 1 - d)) (fun _ => 1) = t
    generalize bE (Lk (cz - 1 - d)) (fun x => D2 * x - Ex) = u
    generalize foA Lk cz d = a
    generalize rN Lk cz D2 Ex d = r
    generalize D2 * m - Ex = p
    rw [Nat.add_mul, Nat.add_mul, Nat.mul_assoc Ex a t, Nat.mul_assoc a p t, Nat.mul_comm p t, ← Nat.mul_assoc a t p]
    omega
/-- the bar: the least whole number that is no less than half the mean of the greatest -/
theorem gath_u {L : List (Nat × Nat)} {D2 Ex b : Nat} (hb : ∀ x, b ≤ x ↔ Ex ≤ D2 * x) : D2 * bGath L ((b : Nat) : Int) = Ex * bGe L b + uN L D2 Ex := by
  unfold bGath bGe uN
  rw [← bE_mul, ← bE_mul, ← bE_add]
  apply bE_same
  intro x
  have h := hb x
  by_cases c1 : b ≤ x
  · rw [if_pos (by omega), if_pos c1]
    have := h.mp c1
    omega
  · rw [if_neg (by omega), if_neg c1]
    have : ¬ Ex ≤ D2 * x := fun q => c1 (h.mpr q)
    omega
theorem pro_step {Ex a m q r t l ge u : Nat} (ih : Ex * (a * a) + q * r ≤ a * m + Ex * (a * q)) (ht : t = l + ge) (hqa : q ≤ a) : Ex * ((a * t) * (a * t)) + (q * l) * (r * t + a * u) ≤ (a * t) * (m * l + a * (Ex * ge + u)) + Ex * ((a * t) * (q * l)) := by
  have h1 : (Ex * (a * a) + q * r) * (t * l) ≤ (a * m + Ex * (a * q)) * (t * l) := Nat.mul_le_mul_right _ ih
  have h2 : (q * l) * (a * u) ≤ (a * t) * (a * u) := Nat.mul_le_mul_right _ (Nat.mul_le_mul hqa (by omega))
  have e1 : Ex * ((a * t) * (a * t)) = Ex * (a * a) * (t * l) + Ex * (a * a) * (t * ge) := by
    have : t * t = t * l + t * ge := by rw [← Nat.mul_add, ← ht]
    rw [show (a * t) * (a * t) = (a * a) * (t * t) from by rw [Nat.mul_assoc, Nat.mul_left_comm t a t, ← Nat.mul_assoc], this, Nat.mul_add, Nat.mul_add]
    simp only [Nat.mul_assoc]
  have e2 : (q * l) * (r * t + a * u) = q * r * (t * l) + (q * l) * (a * u) := by
    rw [Nat.mul_add, show (q * l) * (r * t) = q * r * (t * l) from by rw [Nat.mul_assoc, Nat.mul_left_comm l r t, Nat.mul_comm l t, ← Nat.mul_assoc]]
  have e3 : (a * t) * (m * l + a * (Ex * ge + u)) = a * m * (t * l) + (Ex * (a * a) * (t * ge) + (a * t) * (a * u)) := by
    rw [Nat.mul_add, Nat.mul_add a, Nat.mul_add (a * t)]
    rw [show (a * t) * (m * l) = a * m * (t * l) from by rw [Nat.mul_assoc, Nat.mul_left_comm t m l, ← Nat.mul_assoc], show (a * t) * (a * (Ex * ge)) = Ex * (a * a) * (t * ge) from by rw [Nat.mul_assoc, Nat.mul_left_comm t a, Nat.mul_left_comm t Ex ge, ← Nat.mul_assoc a a, Nat.mul_left_comm (a * a) Ex]; simp only [Nat.mul_assoc]]
  have e4 : Ex * ((a * t) * (q * l)) = Ex * (a * q) * (t * l) := by
    rw [show (a * t) * (q * l) = (a * q) * (t * l) from by rw [Nat.mul_assoc, Nat.mul_left_comm t q l, ← Nat.mul_assoc]]
    simp only [Nat.mul_assoc]
  rw [e1, e2, e3, e4]
  rw [Nat.add_mul, Nat.add_mul] at h1
  omega
theorem pro_inv {Lk : Nat → List (Nat × Nat)} {cz D2 Ex b : Nat} (hb : ∀ x, b ≤ x ↔ Ex ≤ D2 * x) : ∀ d, d ≤ cz → Ex * (foA Lk cz d * foA Lk cz d) + sfP (fun k => bBelow (Lk k) ((b : Nat) : Int)) cz d * rN Lk cz D2 Ex d ≤ foA Lk cz d * (D2 * foM Lk (fun _ => b) cz d) + Ex * (foA Lk cz d * sfP (fun k => bBelow (Lk k) ((b : Nat) : Int)) cz d) := by
  intro d
  induction d with
  | zero => intro _; show Ex * (1 * 1) + 1 * 0 ≤ 1 * (D2 * 0) + Ex * (1 * 1); omega
  | succ d ih =>
    intro hd
    have hq : sfP (fun k => bBelow (Lk k) ((b : Nat) : Int)) cz d ≤ foA Lk cz d := by rw [foA_sf]; exact sfP_le (fun k => below_tot _ _) d
    have hg := gath_u (L := Lk (cz - 1 - d)) hb
    have hs := pro_step (t := bE (Lk (cz - 1 - d)) (fun _ => 1)) (l := bBelow (Lk (cz - 1 - d)) ((b : Nat) : Int)) (ge := bGe (Lk (cz - 1 - d)) b) (u := uN (Lk (cz - 1 - d)) D2 Ex) (ih (by omega)) (ge_tot _ _).symm hq
    have e : D2 * foM Lk (fun _ => b) cz (d + 1) = D2 * foM Lk (fun _ => b) cz d * bBelow (Lk (cz - 1 - d)) ((b : Nat) : Int) + foA Lk cz d * (Ex * bGe (Lk (cz - 1 - d)) b + uN (Lk (cz - 1 - d)) D2 Ex) := by
      show D2 * (foM Lk (fun _ => b) cz d * bBelow (Lk (cz - 1 - d)) ((b : Nat) : Int) + foA Lk cz d * bGath (Lk (cz - 1 - d)) ((b : Nat) : Int)) = _
      rw [← hg, Nat.mul_add, ← Nat.mul_assoc, Nat.mul_left_comm D2 (foA Lk cz d)]
    rw [e]
    exact hs
theorem prophet {Lk : Nat → List (Nat × Nat)} {cz : Nat} (hok : ∀ k, k < cz → bOK (Lk k)) (hp : ∀ k, k < cz → 0 < bE (Lk k) (fun _ => 1)) : ∃ b, b ≤ 1001 ∧ HF Lk cz b := by
  obtain ⟨P, hP⟩ : ∃ P, P = prT Lk cz := ⟨_, rfl⟩
  obtain ⟨Ex, hE⟩ : ∃ Ex, Ex = foS Lk cz 1000 := ⟨_, rfl⟩
  have hPp : 0 < P := by rw [hP]; exact pr_pos cz hp
  have hEP : Ex ≤ 1000 * P := by rw [hE, hP]; exact foS_le Lk cz 1000
  obtain ⟨b, hbd⟩ : ∃ b, b = (Ex + (2 * P - 1)) / (2 * P) := ⟨_, rfl⟩
  have hD : 0 < 2 * P := by omega
  have hb : ∀ x, b ≤ x ↔ Ex ≤ 2 * P * x := by
    intro x
    rw [hbd, ← Nat.lt_succ_iff, Nat.div_lt_iff_lt_mul hD]
    have e : (x + 1) * (2 * P) = 2 * P * x + 2 * P := by rw [Nat.add_mul, Nat.one_mul, Nat.mul_comm]
    show Ex + (2 * P - 1) < (x + 1) * (2 * P) ↔ _
    rw [e]
    omega
  refine ⟨b, (hb 1001).mpr ?_, ?_⟩
  · have : 1000 * P ≤ 2 * P * 1001 := by omega
    omega
  · have h1 := pro_inv (Lk := Lk) (cz := cz) hb cz (Nat.le_refl _)
    have h2 := ex_le hok (2 * P) Ex cz (Nat.le_refl _) 0 (by omega)
    rw [exF_all, ← hE, foA_pr, ← hP, Nat.mul_zero, Nat.zero_sub, Nat.mul_zero, Nat.add_zero] at h2
    rw [foA_pr, ← hP] at h1
    have hR : Ex * P ≤ rN Lk cz (2 * P) Ex cz := by
      have e : 2 * P * Ex = Ex * P + Ex * P := by rw [Nat.mul_assoc, Nat.mul_comm P Ex]; omega
      omega
    generalize sfP (fun k => bBelow (Lk k) ((b : Nat) : Int)) cz cz = q at h1
    have h3 : q * (Ex * P) ≤ q * rN Lk cz (2 * P) Ex cz := Nat.mul_le_mul_left _ hR
    have e1 : q * (Ex * P) = Ex * (P * q) := by rw [Nat.mul_left_comm, Nat.mul_comm q P]
    have h4 : Ex * (P * P) ≤ P * (2 * P * foM Lk (fun _ => b) cz cz) := by omega
    have e2 : Ex * (P * P) = P * (P * Ex) := by rw [Nat.mul_comm, Nat.mul_assoc]
    have e3 : P * (2 * P * foM Lk (fun _ => b) cz cz) = P * (P * (2 * foM Lk (fun _ => b) cz cz)) := by rw [Nat.mul_comm 2 P, Nat.mul_assoc]
    rw [e2, e3] at h4
    unfold HF
    rw [← hE]
    exact Nat.le_of_mul_le_mul_left (Nat.le_of_mul_le_mul_left h4 hPp) hPp
