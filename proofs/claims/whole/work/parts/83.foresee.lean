/-! ===== the class: foresight, half ===== -/
def lv1 (L : List (Nat × Nat)) (x : Nat) : Nat := sm (fun y => if 0 < bMass L y then 1 else 0) x
def lvC (Lk : Nat → List (Nat × Nat)) (cz x : Nat) : Nat := sm (fun k => lv1 (Lk k) x) cz
theorem sm_swap (f : Nat → Nat → Nat) (a b : Nat) : sm (fun x => sm (fun y => f x y) b) a = sm (fun y => sm (fun x => f x y) a) b := by
  induction a with
  | zero => exact (sm_zero b (fun _ _ => rfl)).symm
  | succ a ih =>
    show sm (fun x => sm (fun y => f x y) b) a + sm (fun y => f a y) b = sm (fun y => sm (fun x => f x y) a + f a y) b
    rw [ih, sm_add]
theorem sm_hit (w x : Nat) : sm (fun y => if w = y then 1 else 0) x ≤ 1 := by
  by_cases h : w < x
  · rw [sm_one (j := w) x h (fun y _ hne => if_neg (fun e => hne e.symm)), if_pos rfl]; exact Nat.le_refl _
  · rw [sm_zero x (fun y hy => if_neg (by omega))]; exact Nat.zero_le _
theorem sm_const (c k : Nat) : sm (fun _ => c) k = k * c := by
  induction k with
  | zero => rw [Nat.zero_mul]; rfl
  | succ k ih => show sm (fun _ => c) k + c = _; rw [ih, Nat.add_mul, Nat.one_mul]
theorem lv1_le {E : wE} {A : Nat → Nat} {g : Nat → va_E} {i : Nat} {L : List (Nat × Nat)} (h : BookV E A g i L) (x : Nat) : lv1 L x ≤ 8 := by
  obtain ⟨bz, wo, we, tot, hc, hp⟩ := h
  have h1 : lv1 L x ≤ sm (fun y => sm (fun j => if wo j = y then 1 else 0) bz) x := by
    apply sm_le
    intro y _
    by_cases e : 0 < bMass L y
    · rw [if_pos e]
      obtain ⟨j, hj, hw⟩ := mass_wo hp e
      have := sm_part (fun j => if wo j = y then 1 else 0) hj
      rw [if_pos hw] at this
      omega
    · rw [if_neg e]; exact Nat.zero_le _
  rw [sm_swap] at h1
  have h2 : sm (fun j => sm (fun y => if wo j = y then 1 else 0) x) bz ≤ sm (fun _ => 1) bz := sm_le bz (fun j _ => sm_hit _ _)
  rw [sm_const] at h2
  have := hc.2.1
  omega
theorem lvC_le {E : wE} {A : Nat → Nat} {g : Nat → va_E} {n cz : Nat} {bc : Nat → Nat} {Lk : Nat → List (Nat × Nat)} (hB : BksV E A g n cz bc Lk) (x : Nat) : lvC Lk cz x ≤ cz * 8 := by
  rw [← sm_const]
  exact sm_le cz (fun k hk => lv1_le (hB k hk).2 x)
theorem lvC_step {Lk : Nat → List (Nat × Nat)} {cz nx x k : Nat} (hk : k < cz) (hm : 0 < bMass (Lk k) x) (h : nx ≤ x) : lvC Lk cz nx + 1 ≤ lvC Lk cz (x + 1) := by
  have h0 : ∀ j, lv1 (Lk j) nx ≤ lv1 (Lk j) (x + 1) := fun j => sm_mono _ (by omega)
  have h1 : lv1 (Lk k) nx + 1 ≤ lv1 (Lk k) (x + 1) := by
    have a := sm_mono (fun y => if 0 < bMass (Lk k) y then 1 else 0) h
    show sm _ nx + 1 ≤ sm _ x + (if 0 < bMass (Lk k) x then 1 else 0)
    rw [if_pos hm]; omega
  have h2 : sm (fun j => lv1 (Lk j) nx + if j = k then 1 else 0) cz ≤ lvC Lk cz (x + 1) := by
    apply sm_le
    intro j _
    by_cases e : j = k
    · rw [if_pos e, e]; exact h1
    · rw [if_neg e]; exact h0 j
  rw [sm_add, sm_one (f := fun j => if j = k then 1 else 0) (j := k) cz hk (fun y _ hne => if_neg hne), if_pos rfl] at h2
  exact h2
theorem below_flat {L : List (Nat × Nat)} {a b : Nat} (h : ∀ y, a ≤ y → y < b → bMass L y = 0) : a ≤ b → bBelow L ((b : Nat) : Int) = bBelow L ((a : Nat) : Int) := by
  induction b with
  | zero => intro hab; rw [show a = 0 from by omega]
  | succ b ih =>
    intro hab
    by_cases e : a = b + 1
    · rw [e]
    · rw [← ih (fun y h1 h2 => h y h1 (by omega)) (by omega)]
      have hm := h b (by omega) (by omega)
      have hs : bBelow L ((b + 1 : Nat) : Int) = bBelow L ((b : Nat) : Int) + bMass L b := by
        unfold bBelow bMass
        rw [← bE_add]
        apply bE_same
        intro y
        by_cases c1 : y < b
        · rw [if_pos (by omega), if_pos (by omega), if_neg (by omega)]
        · by_cases c2 : y = b
          · rw [if_pos (by omega), if_neg (by omega), if_pos c2]
          · rw [if_neg (by omega), if_neg (by omega), if_neg c2]
      rw [hs, hm, Nat.add_zero]
theorem gath_flat {L : List (Nat × Nat)} {a b : Nat} (h : ∀ y, a ≤ y → y < b → bMass L y = 0) : a ≤ b → bGath L ((b : Nat) : Int) = bGath L ((a : Nat) : Int) := by
  induction b with
  | zero => intro hab; rw [show a = 0 from by omega]
  | succ b ih =>
    intro hab
    by_cases e : a = b + 1
    · rw [e]
    · rw [← ih (fun y h1 h2 => h y h1 (by omega)) (by omega), gath_step L b, h b (by omega) (by omega), Nat.mul_zero]
      exact (Nat.add_zero _).symm
theorem prB_flat {Lk : Nat → List (Nat × Nat)} {cz a b : Nat} (h : ∀ y, a ≤ y → y < b → ∀ k, k < cz → bMass (Lk k) y = 0) (hab : a ≤ b) : prB Lk ((b : Nat) : Int) cz = prB Lk ((a : Nat) : Int) cz := by
  have key : ∀ c, c ≤ cz → prB Lk ((b : Nat) : Int) c = prB Lk ((a : Nat) : Int) c := by
    intro c
    induction c with
    | zero => intro _; rfl
    | succ c ih =>
      intro hc
      show prB Lk ((b : Nat) : Int) c * bBelow (Lk c) _ = prB Lk ((a : Nat) : Int) c * bBelow (Lk c) _
      rw [ih (by omega), below_flat (fun y h1 h2 => h y h1 h2 c (by omega)) hab]
  exact key cz (Nat.le_refl _)
theorem foM_flat {Lk : Nat → List (Nat × Nat)} {cz a b : Nat} (h : ∀ y, a ≤ y → y < b → ∀ k, k < cz → bMass (Lk k) y = 0) (hab : a ≤ b) : ∀ d, d ≤ cz → foM Lk (fun _ => b) cz d = foM Lk (fun _ => a) cz d := by
  intro d
  induction d with
  | zero => intro _; rfl
  | succ d ih =>
    intro hd
    show foM Lk (fun _ => b) cz d * bBelow (Lk (cz - 1 - d)) ((b : Nat) : Int) + foA Lk cz d * bGath (Lk (cz - 1 - d)) ((b : Nat) : Int) = foM Lk (fun _ => a) cz d * bBelow (Lk (cz - 1 - d)) ((a : Nat) : Int) + foA Lk cz d * bGath (Lk (cz - 1 - d)) ((a : Nat) : Int)
    rw [ih (by omega), below_flat (fun y h1 h2 => h y h1 h2 _ (by omega)) hab, gath_flat (fun y h1 h2 => h y h1 h2 _ (by omega)) hab]
theorem fo_step {b : Nat → Nat} {nx x fv b0 B1 : Nat} (hx : nx ≤ x) (hc : ∀ t, nx ≤ t → t < x → b (t + 1) = b0) (hf : fv + sm (fun t => b (t + 1)) nx = nx * b0) (hle : b0 ≤ B1) (h1 : b (x + 1) = B1) : (fv + B1 * x - b0 * x) + sm (fun t => b (t + 1)) (x + 1) = (x + 1) * B1 := by
  obtain ⟨e, rfl⟩ : ∃ e, x = nx + e := ⟨x - nx, by omega⟩
  have hs : ∀ u, u ≤ e → sm (fun t => b (t + 1)) (nx + u) = sm (fun t => b (t + 1)) nx + u * b0 := by
    intro u
    induction u with
    | zero => intro _; rw [Nat.zero_mul]; rfl
    | succ u ih =>
      intro hu
      show sm (fun t => b (t + 1)) (nx + u) + b (nx + u + 1) = _
      rw [ih (by omega), hc (nx + u) (by omega) (by omega), Nat.add_mul, Nat.one_mul, Nat.add_assoc]
  have h2 := hs e (Nat.le_refl _)
  have h3 : b0 * (nx + e) ≤ B1 * (nx + e) := Nat.mul_le_mul_right _ hle
  show (fv + B1 * (nx + e) - b0 * (nx + e)) + (sm (fun t => b (t + 1)) (nx + e) + b (nx + e + 1)) = _
  rw [h2, h1, Nat.add_mul, Nat.one_mul, Nat.mul_comm (nx + e) B1]
  rw [Nat.mul_comm nx b0] at hf
  have h4 : b0 * (nx + e) = b0 * nx + e * b0 := by rw [Nat.mul_add, Nat.mul_comm e b0]
  omega
theorem foS_sum (Lk : Nat → List (Nat × Nat)) (cz : Nat) : ∀ T, foS Lk cz T + sm (fun t => prB Lk ((t + 1 : Nat) : Int) cz) T = T * prT Lk cz := by
  intro T
  induction T with
  | zero => rw [Nat.zero_mul]; rfl
  | succ T ih =>
    rw [foS_succ, Nat.add_mul, Nat.one_mul]
    show _ + (sm _ T + prB Lk ((T + 1 : Nat) : Int) cz) = _
    have := prB_le Lk ((T + 1 : Nat) : Int) cz
    omega
theorem below_all {L : List (Nat × Nat)} {a : Nat} (h : ∀ y, a ≤ y → bMass L y = 0) : bBelow L ((a : Nat) : Int) = bE L (fun _ => 1) := by
  induction L with
  | nil => rfl
  | cons q L ih =>
    have hm : ∀ y, a ≤ y → (q.2 * (if q.1 = y then 1 else 0) + bMass L y = 0) := h
    have e := ih (fun y hy => by have := hm y hy; omega)
    show q.2 * (if (q.1 : Int) < ((a : Nat) : Int) then 1 else 0) + bBelow L ((a : Nat) : Int) = q.2 * 1 + bE L (fun _ => 1)
    rw [e]
    by_cases c1 : q.1 < a
    · rw [if_pos (by omega)]
    · have := hm q.1 (by omega)
      rw [if_pos rfl] at this
      rw [if_neg (by omega), show q.2 = 0 from by omega]
theorem prB_all {Lk : Nat → List (Nat × Nat)} {cz a : Nat} (h : ∀ y, a ≤ y → ∀ k, k < cz → bMass (Lk k) y = 0) : prB Lk ((a : Nat) : Int) cz = prT Lk cz := by
  have key : ∀ c, c ≤ cz → prB Lk ((a : Nat) : Int) c = prT Lk c := by
    intro c
    induction c with
    | zero => intro _; rfl
    | succ c ih =>
      intro hc
      show prB Lk ((a : Nat) : Int) c * bBelow (Lk c) _ = prT Lk c * bE (Lk c) (fun _ => 1)
      rw [ih (by omega), below_all (fun y hy => h y hy c (by omega))]
  exact key cz (Nat.le_refl _)
theorem fo_end {Lk : Nat → List (Nat × Nat)} {cz nx fv bv : Nat} (hn : nx ≤ 1001) (h : ∀ y, nx ≤ y → ∀ k, k < cz → bMass (Lk k) y = 0) (hb : 0 < cz → bv = prB Lk ((nx : Nat) : Int) cz) (hb0 : nx = 0 → fv = 0) (hz : cz = 0 → nx = 0) (hf : fv + sm (fun t => prB Lk ((t + 1 : Nat) : Int) cz) nx = nx * bv) : fv = foS Lk cz 1000 := by
  by_cases e : cz = 0
  · rw [hb0 (hz e), e, foS_none]
  · rw [hb (by omega), prB_all h] at hf
    have h1 := foS_sum Lk cz nx
    have h2 : ∀ T, nx ≤ T + 1 → foS Lk cz (T + 1) = foS Lk cz T := by
      intro T hT
      rw [foS_succ, prB_all (fun y hy => h y (by omega)), Nat.sub_self, Nat.add_zero]
    have h3 : ∀ d, nx ≤ 1001 - d → d ≤ 1001 → foS Lk cz 1001 = foS Lk cz (1001 - d) := by
      intro d
      induction d with
      | zero => intro _ _; rfl
      | succ d ih =>
        intro h4 h5
        rw [ih (by omega) (by omega), show 1001 - d = (1001 - (d + 1)) + 1 from by omega, h2 _ (by omega)]
    have h4 := h3 (1001 - nx) (by omega) (by omega)
    rw [show 1001 - (1001 - nx) = nx from by omega] at h4
    have h5 : foS Lk cz 1001 = foS Lk cz 1000 := h2 1000 (by omega)
    omega
theorem ComV.fore {E : wE} {A : Nat → Nat} {g g' : Nat → va_E} {i cz : Nat} {bc tb : Nat → Nat} (h : ComV E A g i cz bc tb) (hf : ∀ j, (j ≠ i + 15 ∧ j ≠ i + 17 ∧ j ≠ i + 19) → g' j = g j) (n1 : NatX E A g' (i + 14)) (n2 : NatX E A g' (i + 16)) (n3 : NatX E A g' (i + 18)) : ComV E A g' i cz bc tb := by
  obtain ⟨h0, h1, ⟨f6, a6, b6⟩, ⟨f7, a7⟩, ⟨f8, a8⟩, ⟨f9, a9, b9⟩, ⟨m1, m2, m3, m4, m5⟩, nk⟩ := h
  exact ⟨(hf _ (by omega)).trans h0, h1.frame (hf _ (by omega)) (hf _ (by omega)), ⟨f6, (hf _ (by omega)).trans a6, b6⟩, ⟨f7, (hf _ (by omega)).trans a7⟩, ⟨f8, (hf _ (by omega)).trans a8⟩, ⟨f9, (hf _ (by omega)).trans a9, b9⟩, ⟨m1.frame (hf _ (by omega)) (hf _ (by omega)), m2.frame (hf _ (by omega)) (hf _ (by omega)), n1, n2, n3⟩, fun k hk => (nk k hk).frame (hf _ (by omega)) (hf _ (by omega))⟩

theorem below_0 (L : List (Nat × Nat)) : bBelow L ((0 : Nat) : Int) = 0 := bE_zero (fun k _ => if_neg (by omega))
theorem prB_zero {Lk : Nat → List (Nat × Nat)} {cz : Nat} (h : 0 < cz) : prB Lk ((0 : Nat) : Int) cz = 0 := by
  obtain ⟨c, rfl⟩ : ∃ c, cz = c + 1 := ⟨cz - 1, by omega⟩
  show prB Lk ((0 : Nat) : Int) c * bBelow (Lk c) ((0 : Nat) : Int) = 0
  rw [below_0, Nat.mul_zero]

set_option maxHeartbeats 4000000 in
set_option maxRecDepth 100000 in
/-- foresee -/
theorem c_X2_foresee (l : Launch) (E : wE) (A : Nat → Nat) (n sz : Nat) (g : Nat → va_E) (i cz : Nat) (bc : Nat → Nat) (tb : Nat → Nat) (Lk : Nat → List (Nat × Nat)) (hi : i + 41 < n) (hV : ComV E A g i cz bc tb) (hB : BksV E A g n cz bc Lk) (hdb : ∀ k, k < cz → i + 41 < bc k ∨ bc k + 2 < i) : Met l yX2_foresee wsX2_foresee ({ frames := 4, cells := 0, slots := 0, locals := 140 } : Room) (va_Pc [.ref (A (i))] (wPre E A n sz g)) (va_Qv (fun g' => NatV E A g' (i + 18) (foS Lk cz 1000) ∧ NatX E A g' (i + 14) ∧ NatX E A g' (i + 16) ∧ ∀ j, (j ≠ i + 15 ∧ j ≠ i + 17 ∧ j ≠ i + 19) → g' j = g j) (wAt E A n) (wF A n sz)) 0 0 (wF A n sz) := by
  refine x_met (cc := cX2_foresee) (maxL := 3) (ret := none) [.ref (A (i))] (by decide) rfl (Nat.le_of_ble_eq_true rfl) ?_
  intro p_ e_ s_ m_ below meth c_ ls X hr hlk hnm hsz hW hl
  have hl : lv_has ls 3 [(0, .ref (A (i)))] := hl
  have lk_0 : ∀ w ∈ wsX20, w ∈ wsX2_foresee := by decide +kernel
  have lk_1 : Cond.fieldLink RX2 48 (TX2 9).1 (TX2 9).2.1 (TX2 9).2.2.1 ∈ wsX2_foresee := by decide +kernel
  have lk_2 : Cond.fieldLink RX2 45 (TX2 8).1 (TX2 8).2.1 (TX2 8).2.2.1 ∈ wsX2_foresee := by decide +kernel
  have lk_3 : Cond.fieldLink RX2 12 (TX2 0).1 (TX2 0).2.1 (TX2 0).2.2.1 ∈ wsX2_foresee := by decide +kernel
  have lk_4 : Cond.fieldLink RX2 42 (TX2 7).1 (TX2 7).2.1 (TX2 7).2.2.1 ∈ wsX2_foresee := by decide +kernel
  have hVg := hV
  have hBg := hB
  obtain ⟨h0, hC, ⟨f6, h6, hf6⟩, ⟨f7, h7⟩, ⟨f8, h8⟩, ⟨f9, h9, hf9⟩, ⟨n_i___10, n_i___12, n_i___14, n_i___16, n_i___18⟩, hMx⟩ := hV
  have h0g := h0
  have hCg := hC
  have hc0 := hC.1
  have hz10 : cz ≤ 10 := hC.2.1
  have htt : ∀ k, k < cz → bE (Lk k) (fun _ => 1) ≤ 8000 := fun k hk => (hB k hk).2.tot
  have hP := prT_le htt cz (Nat.le_refl _)
  have hpc := pow_cap hz10
  have hp40 : 8000 ^ cz ≤ 8000 ^ 10 := Nat.pow_le_pow_right (by decide) hz10
  have hfr : ∀ j, (j ≠ i + 15 ∧ j ≠ i + 17 ∧ j ≠ i + 19) → g j = g j := fun _ _ => rfl
  refine lv_aload_n X.1 X.2.1 dX2_foresee_0 rfl (lv_at hl 0 rfl) ?_
  refine x_get (C := RX2) (T := TX2) (N := 10) X hW (by omega) h0 rfl lk_0 9 (by decide) lk_1 rfl dX2_foresee_1 ?_
  refine x_lconst X 0 (by decide) dX2_foresee_4 ?_
  refine x_cv (x_runV (k := 1) (As := [.long (lI (0))]) (rest := []) X hW (c_X5_put l E A n _ g (i + 18) 0 (by omega) n_i___18 (by decide)) (by omega) n_i___18.1 rfl gX2_foresee_X5_put rfl rfl rfl (by decide +kernel) ⟨by decide, by decide⟩ rfl hl.1 rfl (Nat.le_of_ble_eq_true rfl) dX2_foresee_5 ⟨Nat.zero_le _, Nat.zero_le _⟩) hW (fun g_5 H locs hp_5 hW => ?_)
  obtain ⟨nv_5, hf_5⟩ := hp_5
  have h0 : g_5 i = .inr (2, [.ref (A (i + 1)), .ref (A (i + 6)), .ref (A (i + 7)), .ref (A (i + 8)), .ref (A (i + 9)), .ref (A (i + 10)), .ref (A (i + 12)), .ref (A (i + 14)), .ref (A (i + 16)), .ref (A (i + 18))]) := by rw [hf_5 _ (by omega)]; exact h0
  have hc0 : g_5 (i + 1) = .inr (3, [.ref (A (i + 1 + 1)), .ref (A (i + 1 + 4)), .int (iI ((cz : Int)))]) := by rw [hf_5 _ (by omega)]; exact hc0
  have n_i___16 : NatX E A g_5 (i + 16) := n_i___16.frame (hf_5 _ (by omega)) (hf_5 _ (by omega))
  have n_i___14 : NatX E A g_5 (i + 14) := n_i___14.frame (hf_5 _ (by omega)) (hf_5 _ (by omega))
  have n_i___18 : NatV E A g_5 (i + 18) 0 := nv_5
  have hfr : ∀ j, (j ≠ i + 15 ∧ j ≠ i + 17 ∧ j ≠ i + 19) → g_5 j = g j := fun j hj => (hf_5 j (by omega)).trans (hfr j hj)
  have hC : CrowdV E A g_5 (i + 1) cz bc := hCg.frame (hfr _ (by omega)) (hfr _ (by omega))
  have hB : BksV E A g_5 n cz bc Lk := hBg.frame (fun k hk => by have := hdb k hk; exact ⟨hfr _ (by omega), hfr _ (by omega), hfr _ (by omega)⟩)
  refine lv_aload_n X.1 X.2.1 dX2_foresee_8 rfl (lv_at hl 0 rfl) ?_
  refine x_get (C := RX2) (T := TX2) (N := 10) X hW (by omega) h0 rfl lk_0 8 (by decide) lk_2 rfl dX2_foresee_9 ?_
  refine x_lconst X 0 (by decide) dX2_foresee_12 ?_
  refine x_cv (x_runV (k := 1) (As := [.long (lI (0))]) (rest := []) X hW (c_X5_put l E A n _ g_5 (i + 16) 0 (by omega) n_i___16 (by decide)) (by omega) n_i___16.1 rfl gX2_foresee_X5_put rfl rfl rfl (by decide +kernel) ⟨by decide, by decide⟩ rfl hl.1 rfl (Nat.le_of_ble_eq_true rfl) dX2_foresee_13 ⟨Nat.zero_le _, Nat.zero_le _⟩) hW (fun g_13 H locs hp_13 hW => ?_)
  obtain ⟨nv_13, hf_13⟩ := hp_13
  have h0 : g_13 i = .inr (2, [.ref (A (i + 1)), .ref (A (i + 6)), .ref (A (i + 7)), .ref (A (i + 8)), .ref (A (i + 9)), .ref (A (i + 10)), .ref (A (i + 12)), .ref (A (i + 14)), .ref (A (i + 16)), .ref (A (i + 18))]) := by rw [hf_13 _ (by omega)]; exact h0
  have hc0 : g_13 (i + 1) = .inr (3, [.ref (A (i + 1 + 1)), .ref (A (i + 1 + 4)), .int (iI ((cz : Int)))]) := by rw [hf_13 _ (by omega)]; exact hc0
  have n_i___18 : NatV E A g_13 (i + 18) 0 := n_i___18.frame (hf_13 _ (by omega)) (hf_13 _ (by omega))
  have n_i___14 : NatX E A g_13 (i + 14) := n_i___14.frame (hf_13 _ (by omega)) (hf_13 _ (by omega))
  have n_i___16 : NatV E A g_13 (i + 16) 0 := nv_13
  have hfr : ∀ j, (j ≠ i + 15 ∧ j ≠ i + 17 ∧ j ≠ i + 19) → g_13 j = g j := fun j hj => (hf_13 j (by omega)).trans (hfr j hj)
  have hC : CrowdV E A g_13 (i + 1) cz bc := hCg.frame (hfr _ (by omega)) (hfr _ (by omega))
  have hB : BksV E A g_13 n cz bc Lk := hBg.frame (fun k hk => by have := hdb k hk; exact ⟨hfr _ (by omega), hfr _ (by omega), hfr _ (by omega)⟩)
  refine lv_aload_n X.1 X.2.1 dX2_foresee_16 rfl (lv_at hl 0 rfl) ?_
  refine x_get (C := RX2) (T := TX2) (N := 10) X hW (by omega) h0 rfl lk_0 0 (by decide) lk_3 rfl dX2_foresee_17 ?_
  refine x_iconst X dX2_foresee_20 ?_
  refine x_seti (((0 : Nat) : Int)) rfl ?_
  refine x_ci (x_runV (k := 1) (As := [.int (iI (((0 : Nat) : Int)))]) (rest := []) X hW (c_X3_leastFrom l E A n _ g_13 (i + 1) cz bc Lk (((0 : Nat) : Int)) (by omega) hC hB ⟨by omega, by omega⟩) (by omega) hc0 rfl gX2_foresee_X3_leastFrom rfl rfl rfl (by decide +kernel) ⟨by decide, by decide⟩ rfl hl.1 rfl (Nat.le_of_ble_eq_true rfl) dX2_foresee_21 ⟨Nat.zero_le _, Nat.zero_le _⟩) hW (fun r_21 g_21 H locs hp_21 hW => ?_)
  obtain ⟨⟨z_21, hz_21, hL_21⟩, he_21⟩ := hp_21
  rw [he_21] at hW
  subst hz_21
  have hzr_21 := LFC_rng hL_21
  refine lv_istore_n (lv' := [(1, .int (iI (z_21))), (0, .ref (A (i)))]) X.1 X.2.1 dX2_foresee_24 rfl hl (by decide) rfl (fun ls hl => ?_)
  refine x_iconst X dX2_foresee_25 ?_
  refine x_seti (((0 : Nat) : Int)) rfl ?_
  refine lv_istore_n (lv' := [(2, .int (iI (((0 : Nat) : Int)))), (1, .int (iI (z_21))), (0, .ref (A (i)))]) X.1 X.2.1 dX2_foresee_26 rfl hl (by decide) rfl (fun ls hl => ?_)
  have loop_27 : ∀ (fuel : Nat) (c : Nat) (z : Int) (nx : Nat) (fv : Nat) (bv : Nat) (gw : Nat → va_E) (H : Heap) (locs : List Loc) (ls : Array Slot), (81 - c) < fuel → (c ≤ lvC Lk cz nx) → (LFC cz Lk (nx : Int) z) → (nx ≤ 1001) → (0 < cz → bv = prB Lk ((nx : Nat) : Int) cz) → (nx = 0 → fv = 0) → (cz = 0 → nx = 0) → (fv + sm (fun t => prB Lk ((t + 1 : Nat) : Int) cz) nx = nx * bv) → (NatV E A gw (i + 18) fv) → (NatV E A gw (i + 16) bv) → (NatX E A gw (i + 14)) → (∀ j, (j ≠ i + 15 ∧ j ≠ i + 17 ∧ j ≠ i + 19) → gw j = g j) → wH E (wF A n sz) A n s_ gw H locs → lv_has ls 3 [(0, .ref (A (i))), (1, .int (iI (z))), (2, .int (iI (((c : Nat) : Int))))] → W p_ l e_ ({ frames := 4, cells := 0, slots := 0, locals := 140 } : Room) s_ m_ [.ref (A (i))].toArray below meth c_ H locs 0 0 (MQ below (va_Qv (fun g' => NatV E A g' (i + 18) (foS Lk cz 1000) ∧ NatX E A g' (i + 14) ∧ NatX E A g' (i + 16) ∧ ∀ j, (j ≠ i + 15 ∧ j ≠ i + 17 ∧ j ≠ i + 19) → g' j = g j) (wAt E A n) (wF A n sz)) [.ref (A (i))].toArray s_ 0 0 (wF A n sz)) (F0 m_ 27 ls []) := by
    intro fuel
    induction fuel with
    | zero => intro c z nx fv bv gw H locs ls hm; exact absurd hm (Nat.not_lt_zero _)
    | succ fuel ih_27 =>
      intro c z nx fv bv gw H locs ls hm hc hL hnx hbv hb0 hnz hfv n_i___18 n_i___16 n_i___14 hfr hW hl
      have hC : CrowdV E A gw (i + 1) cz bc := hCg.frame (hfr _ (by omega)) (hfr _ (by omega))
      have hB : BksV E A gw n cz bc Lk := hBg.frame (fun k hk => by have := hdb k hk; exact ⟨hfr _ (by omega), hfr _ (by omega), hfr _ (by omega)⟩)
      have h0 : gw i = .inr (2, [.ref (A (i + 1)), .ref (A (i + 6)), .ref (A (i + 7)), .ref (A (i + 8)), .ref (A (i + 9)), .ref (A (i + 10)), .ref (A (i + 12)), .ref (A (i + 14)), .ref (A (i + 16)), .ref (A (i + 18))]) := (hfr _ (by omega)).trans h0g
      have hc0 := hC.1
      have hlv := lvC_le hBg nx
      refine lv_iload_n X.1 X.2.1 dX2_foresee_27 rfl (lv_at hl 2 rfl) ?_
      refine x_bipush X (by decide) dX2_foresee_28 ?_
      refine x_icmp_ge (tgt := 104) X ⟨by omega, by omega⟩ ⟨by decide, by decide⟩ dX2_foresee_30 (by decide) (fun b_30 => ?_) (fun b_30 => ?_)
      · have hz1 : z = -1 := Decidable.byContradiction (fun h9 => by
          obtain ⟨x, hzx, hx1, hx2, ⟨k9, hk9, hm9⟩, hx4⟩ := hL.resolve_left (fun h8 => h9 h8.1)
          have h7 := lvC_step hk9 hm9 (show nx ≤ x by omega)
          have h6 := lvC_le hBg (x + 1)
          omega)
        have hnone : ∀ y, nx ≤ y → ∀ k, k < cz → bMass (Lk k) y = 0 := fun y hy k hk => (hL.resolve_right (fun h9 => by obtain ⟨x8, h8, _⟩ := h9; omega)).2 y (by omega) k hk
        exact x_vret X hr hlk hW (⟨(fo_end hnx hnone hbv hb0 hnz hfv) ▸ n_i___18, n_i___14, n_i___16.any, hfr⟩) dX2_foresee_104
      · have hzr := LFC_rng hL
        refine lv_iload_n X.1 X.2.1 dX2_foresee_33 rfl (lv_at hl 1 rfl) ?_
        refine x_iconst X dX2_foresee_34 ?_
        refine x_icmp_eq (tgt := 104) X ⟨by omega, by omega⟩ ⟨by decide, by decide⟩ dX2_foresee_35 (by decide) (fun b_35 => ?_) (fun b_35 => ?_)
        · have hz1 : z = -1 := b_35
          have hnone : ∀ y, nx ≤ y → ∀ k, k < cz → bMass (Lk k) y = 0 := fun y hy k hk => (hL.resolve_right (fun h9 => by obtain ⟨x8, h8, _⟩ := h9; omega)).2 y (by omega) k hk
          exact x_vret X hr hlk hW (⟨(fo_end hnx hnone hbv hb0 hnz hfv) ▸ n_i___18, n_i___14, n_i___16.any, hfr⟩) dX2_foresee_104
        · obtain ⟨x, hzx, hx1, hx2, ⟨k9, hk9, hm9⟩, hx4⟩ := hL.resolve_left (fun h8 => b_35 h8.1)
          have hnx2 : nx ≤ x := by omega
          have hbe := hbv (by omega)
          have hB1 := prB_le Lk ((x + 1 : Nat) : Int) cz
          have hfl : prB Lk ((x : Nat) : Int) cz = bv := by rw [hbe]; exact prB_flat (fun y h1 h2 k hk => hx4 y h2 (by omega) k hk) hnx2
          have hmon : bv ≤ prB Lk ((x + 1 : Nat) : Int) cz := by rw [← hfl]; exact pr_mono cz (fun j _ => bE_mono (fun y => by split <;> split <;> omega))
          have hpx : prB Lk ((x + 1 : Nat) : Int) cz * x ≤ 10 ^ 40 * 1000 := Nat.mul_le_mul (by omega) hx1
          have hbx : bv * x ≤ prB Lk ((x + 1 : Nat) : Int) cz * x := Nat.mul_le_mul_right _ hmon
          have hnb : nx * bv ≤ 1001 * 10 ^ 40 := Nat.mul_le_mul hnx (by omega)
          have hstep := fo_step (b := fun t => prB Lk ((t : Nat) : Int) cz) hnx2 (fun t h1 h2 => by show prB Lk ((t + 1 : Nat) : Int) cz = bv; rw [hbe]; exact prB_flat (fun y h3 h4 k hk => hx4 y (by omega) (by omega) k hk) (by omega)) hfv hmon rfl
          refine lv_aload_n X.1 X.2.1 dX2_foresee_38 rfl (lv_at hl 0 rfl) ?_
          refine x_get (C := RX2) (T := TX2) (N := 10) X hW (by omega) h0 rfl lk_0 0 (by decide) lk_3 rfl dX2_foresee_39 ?_
          refine lv_iload_n X.1 X.2.1 dX2_foresee_42 rfl (lv_at hl 1 rfl) ?_
          refine lv_aload_n X.1 X.2.1 dX2_foresee_43 rfl (lv_at hl 0 rfl) ?_
          refine x_get (C := RX2) (T := TX2) (N := 10) X hW (by omega) h0 rfl lk_0 7 (by decide) lk_4 rfl dX2_foresee_44 ?_
          refine x_cv (x_runV (k := 2) (As := [.int (iI (z)), .ref (A (i + 14))]) (rest := []) X hW (c_X3_waysUpTo l E A n _ gw (i + 1) cz bc Lk (z) (i + 14) (by omega) hC hB (by omega) (by omega) (by omega) (n_i___14) (by omega) (fun k hk => by have := hdb k hk; omega)) (by omega) hc0 rfl gX2_foresee_X3_waysUpTo rfl rfl rfl (by decide +kernel) ⟨by decide, by decide⟩ rfl hl.1 rfl (Nat.le_of_ble_eq_true rfl) dX2_foresee_47 ⟨Nat.zero_le _, Nat.zero_le _⟩) hW (fun g_47 H locs hp_47 hW => ?_)
          obtain ⟨nv_47, hf_47⟩ := hp_47
          rw [show z + 1 = ((x + 1 : Nat) : Int) from by omega] at nv_47
          have h0 : g_47 i = .inr (2, [.ref (A (i + 1)), .ref (A (i + 6)), .ref (A (i + 7)), .ref (A (i + 8)), .ref (A (i + 9)), .ref (A (i + 10)), .ref (A (i + 12)), .ref (A (i + 14)), .ref (A (i + 16)), .ref (A (i + 18))]) := by rw [hf_47 _ (by omega)]; exact h0
          have hc0 : g_47 (i + 1) = .inr (3, [.ref (A (i + 1 + 1)), .ref (A (i + 1 + 4)), .int (iI ((cz : Int)))]) := by rw [hf_47 _ (by omega)]; exact hc0
          have n_i___18 : NatV E A g_47 (i + 18) fv := n_i___18.frame (hf_47 _ (by omega)) (hf_47 _ (by omega))
          have n_i___16 : NatV E A g_47 (i + 16) bv := n_i___16.frame (hf_47 _ (by omega)) (hf_47 _ (by omega))
          have n_i___14 : NatV E A g_47 (i + 14) (prB Lk ((x + 1 : Nat) : Int) cz) := nv_47
          have hfr : ∀ j, (j ≠ i + 15 ∧ j ≠ i + 17 ∧ j ≠ i + 19) → g_47 j = g j := fun j hj => (hf_47 j (by omega)).trans (hfr j hj)
          have hC : CrowdV E A g_47 (i + 1) cz bc := hCg.frame (hfr _ (by omega)) (hfr _ (by omega))
          have hB : BksV E A g_47 n cz bc Lk := hBg.frame (fun k hk => by have := hdb k hk; exact ⟨hfr _ (by omega), hfr _ (by omega), hfr _ (by omega)⟩)
          refine lv_aload_n X.1 X.2.1 dX2_foresee_50 rfl (lv_at hl 0 rfl) ?_
          refine x_get (C := RX2) (T := TX2) (N := 10) X hW (by omega) h0 rfl lk_0 9 (by decide) lk_1 rfl dX2_foresee_51 ?_
          refine lv_aload_n X.1 X.2.1 dX2_foresee_54 rfl (lv_at hl 0 rfl) ?_
          refine x_get (C := RX2) (T := TX2) (N := 10) X hW (by omega) h0 rfl lk_0 7 (by decide) lk_4 rfl dX2_foresee_55 ?_
          refine lv_iload_n X.1 X.2.1 dX2_foresee_58 rfl (lv_at hl 1 rfl) ?_
          refine x_i2l X ⟨by omega, by omega⟩ dX2_foresee_59 ?_
          refine x_setl (((x : Nat) : Int)) hzx ?_
          refine x_cv (x_runV (k := 2) (As := [.ref (A (i + 14)), .long (lI (((x : Nat) : Int)))]) (rest := []) X hW (c_X5_addTimes l E A n _ g_47 (i + 18) (i + 14) fv (prB Lk ((x + 1 : Nat) : Int) cz) x (by omega) (by omega) (by omega) (by omega) (by omega) n_i___18 n_i___14 (by omega) (by omega)) (by omega) n_i___18.2.1 rfl gX2_foresee_X5_addTimes rfl rfl rfl (by decide +kernel) ⟨by decide, by decide⟩ rfl hl.1 rfl (Nat.le_of_ble_eq_true rfl) dX2_foresee_60 ⟨Nat.zero_le _, Nat.zero_le _⟩) hW (fun g_60 H locs hp_60 hW => ?_)
          obtain ⟨nv_60, hf_60⟩ := hp_60
          have h0 : g_60 i = .inr (2, [.ref (A (i + 1)), .ref (A (i + 6)), .ref (A (i + 7)), .ref (A (i + 8)), .ref (A (i + 9)), .ref (A (i + 10)), .ref (A (i + 12)), .ref (A (i + 14)), .ref (A (i + 16)), .ref (A (i + 18))]) := by rw [hf_60 _ (by omega)]; exact h0
          have hc0 : g_60 (i + 1) = .inr (3, [.ref (A (i + 1 + 1)), .ref (A (i + 1 + 4)), .int (iI ((cz : Int)))]) := by rw [hf_60 _ (by omega)]; exact hc0
          have n_i___16 : NatV E A g_60 (i + 16) bv := n_i___16.frame (hf_60 _ (by omega)) (hf_60 _ (by omega))
          have n_i___14 : NatV E A g_60 (i + 14) (prB Lk ((x + 1 : Nat) : Int) cz) := n_i___14.frame (hf_60 _ (by omega)) (hf_60 _ (by omega))
          have n_i___18 : NatV E A g_60 (i + 18) (fv + prB Lk ((x + 1 : Nat) : Int) cz * x) := nv_60
          have hfr : ∀ j, (j ≠ i + 15 ∧ j ≠ i + 17 ∧ j ≠ i + 19) → g_60 j = g j := fun j hj => (hf_60 j (by omega)).trans (hfr j hj)
          have hC : CrowdV E A g_60 (i + 1) cz bc := hCg.frame (hfr _ (by omega)) (hfr _ (by omega))
          have hB : BksV E A g_60 n cz bc Lk := hBg.frame (fun k hk => by have := hdb k hk; exact ⟨hfr _ (by omega), hfr _ (by omega), hfr _ (by omega)⟩)
          refine lv_aload_n X.1 X.2.1 dX2_foresee_63 rfl (lv_at hl 0 rfl) ?_
          refine x_get (C := RX2) (T := TX2) (N := 10) X hW (by omega) h0 rfl lk_0 9 (by decide) lk_1 rfl dX2_foresee_64 ?_
          refine lv_aload_n X.1 X.2.1 dX2_foresee_67 rfl (lv_at hl 0 rfl) ?_
          refine x_get (C := RX2) (T := TX2) (N := 10) X hW (by omega) h0 rfl lk_0 8 (by decide) lk_2 rfl dX2_foresee_68 ?_
          refine lv_iload_n X.1 X.2.1 dX2_foresee_71 rfl (lv_at hl 1 rfl) ?_
          refine x_i2l X ⟨by omega, by omega⟩ dX2_foresee_72 ?_
          refine x_setl (((x : Nat) : Int)) hzx ?_
          refine x_cv (x_runV (k := 2) (As := [.ref (A (i + 16)), .long (lI (((x : Nat) : Int)))]) (rest := []) X hW (c_X5_takeTimes l E A n _ g_60 (i + 18) (i + 16) (fv + prB Lk ((x + 1 : Nat) : Int) cz * x) bv x (by omega) (by omega) (by omega) (by omega) (by omega) n_i___18 n_i___16 (by omega) (by omega)) (by omega) n_i___18.2.1 rfl gX2_foresee_X5_takeTimes rfl rfl rfl (by decide +kernel) ⟨by decide, by decide⟩ rfl hl.1 rfl (Nat.le_of_ble_eq_true rfl) dX2_foresee_73 ⟨Nat.zero_le _, Nat.zero_le _⟩) hW (fun g_73 H locs hp_73 hW => ?_)
          obtain ⟨nv_73, hf_73⟩ := hp_73
          have h0 : g_73 i = .inr (2, [.ref (A (i + 1)), .ref (A (i + 6)), .ref (A (i + 7)), .ref (A (i + 8)), .ref (A (i + 9)), .ref (A (i + 10)), .ref (A (i + 12)), .ref (A (i + 14)), .ref (A (i + 16)), .ref (A (i + 18))]) := by rw [hf_73 _ (by omega)]; exact h0
          have hc0 : g_73 (i + 1) = .inr (3, [.ref (A (i + 1 + 1)), .ref (A (i + 1 + 4)), .int (iI ((cz : Int)))]) := by rw [hf_73 _ (by omega)]; exact hc0
          have n_i___16 : NatV E A g_73 (i + 16) bv := n_i___16.frame (hf_73 _ (by omega)) (hf_73 _ (by omega))
          have n_i___14 : NatV E A g_73 (i + 14) (prB Lk ((x + 1 : Nat) : Int) cz) := n_i___14.frame (hf_73 _ (by omega)) (hf_73 _ (by omega))
          have n_i___18 : NatV E A g_73 (i + 18) (fv + prB Lk ((x + 1 : Nat) : Int) cz * x - bv * x) := nv_73
          have hfr : ∀ j, (j ≠ i + 15 ∧ j ≠ i + 17 ∧ j ≠ i + 19) → g_73 j = g j := fun j hj => (hf_73 j (by omega)).trans (hfr j hj)
          have hC : CrowdV E A g_73 (i + 1) cz bc := hCg.frame (hfr _ (by omega)) (hfr _ (by omega))
          have hB : BksV E A g_73 n cz bc Lk := hBg.frame (fun k hk => by have := hdb k hk; exact ⟨hfr _ (by omega), hfr _ (by omega), hfr _ (by omega)⟩)
          refine lv_aload_n X.1 X.2.1 dX2_foresee_76 rfl (lv_at hl 0 rfl) ?_
          refine x_get (C := RX2) (T := TX2) (N := 10) X hW (by omega) h0 rfl lk_0 8 (by decide) lk_2 rfl dX2_foresee_77 ?_
          refine lv_aload_n X.1 X.2.1 dX2_foresee_80 rfl (lv_at hl 0 rfl) ?_
          refine x_get (C := RX2) (T := TX2) (N := 10) X hW (by omega) h0 rfl lk_0 7 (by decide) lk_4 rfl dX2_foresee_81 ?_
          refine x_cv (x_runV (k := 1) (As := [.ref (A (i + 14))]) (rest := []) X hW (c_X5_copy l E A n _ g_73 (i + 16) (i + 14) (prB Lk ((x + 1 : Nat) : Int) cz) (by omega) (by omega) (by omega) (by omega) (by omega) n_i___16.any n_i___14) (by omega) n_i___16.2.1 rfl gX2_foresee_X5_copy rfl rfl rfl (by decide +kernel) ⟨by decide, by decide⟩ rfl hl.1 rfl (Nat.le_of_ble_eq_true rfl) dX2_foresee_84 ⟨Nat.zero_le _, Nat.zero_le _⟩) hW (fun g_84 H locs hp_84 hW => ?_)
          obtain ⟨nv_84, hf_84⟩ := hp_84
          have h0 : g_84 i = .inr (2, [.ref (A (i + 1)), .ref (A (i + 6)), .ref (A (i + 7)), .ref (A (i + 8)), .ref (A (i + 9)), .ref (A (i + 10)), .ref (A (i + 12)), .ref (A (i + 14)), .ref (A (i + 16)), .ref (A (i + 18))]) := by rw [hf_84 _ (by omega)]; exact h0
          have hc0 : g_84 (i + 1) = .inr (3, [.ref (A (i + 1 + 1)), .ref (A (i + 1 + 4)), .int (iI ((cz : Int)))]) := by rw [hf_84 _ (by omega)]; exact hc0
          have n_i___18 : NatV E A g_84 (i + 18) (fv + prB Lk ((x + 1 : Nat) : Int) cz * x - bv * x) := n_i___18.frame (hf_84 _ (by omega)) (hf_84 _ (by omega))
          have n_i___14 : NatV E A g_84 (i + 14) (prB Lk ((x + 1 : Nat) : Int) cz) := n_i___14.frame (hf_84 _ (by omega)) (hf_84 _ (by omega))
          have n_i___16 : NatV E A g_84 (i + 16) (prB Lk ((x + 1 : Nat) : Int) cz) := nv_84
          have hfr : ∀ j, (j ≠ i + 15 ∧ j ≠ i + 17 ∧ j ≠ i + 19) → g_84 j = g j := fun j hj => (hf_84 j (by omega)).trans (hfr j hj)
          have hC : CrowdV E A g_84 (i + 1) cz bc := hCg.frame (hfr _ (by omega)) (hfr _ (by omega))
          have hB : BksV E A g_84 n cz bc Lk := hBg.frame (fun k hk => by have := hdb k hk; exact ⟨hfr _ (by omega), hfr _ (by omega), hfr _ (by omega)⟩)
          refine lv_aload_n X.1 X.2.1 dX2_foresee_87 rfl (lv_at hl 0 rfl) ?_
          refine x_get (C := RX2) (T := TX2) (N := 10) X hW (by omega) h0 rfl lk_0 0 (by decide) lk_3 rfl dX2_foresee_88 ?_
          refine lv_iload_n X.1 X.2.1 dX2_foresee_91 rfl (lv_at hl 1 rfl) ?_
          refine x_iconst X dX2_foresee_92 ?_
          refine x_iadd X dX2_foresee_93 ?_
          refine x_ci (x_runV (k := 1) (As := [.int (iI (z + 1))]) (rest := []) X hW (c_X3_leastFrom l E A n _ g_84 (i + 1) cz bc Lk (z + 1) (by omega) hC hB ⟨by omega, by omega⟩) (by omega) hc0 rfl gX2_foresee_X3_leastFrom rfl rfl rfl (by decide +kernel) ⟨by decide, by decide⟩ rfl hl.1 rfl (Nat.le_of_ble_eq_true rfl) dX2_foresee_94 ⟨Nat.zero_le _, Nat.zero_le _⟩) hW (fun r_94 g_94 H locs hp_94 hW => ?_)
          obtain ⟨⟨z_94, hz_94, hL_94⟩, he_94⟩ := hp_94
          rw [he_94] at hW
          subst hz_94
          have hzr_94 := LFC_rng hL_94
          refine lv_istore_n (lv' := [(1, .int (iI (z_94))), (0, .ref (A (i))), (2, .int (iI (((c : Nat) : Int))))]) X.1 X.2.1 dX2_foresee_97 rfl hl (by decide) rfl (fun ls hl => ?_)
          refine lv_iinc (v := iI (((c + 1 : Nat) : Int))) (lv' := [(2, .int (iI (((c + 1 : Nat) : Int)))), (1, .int (iI (z_94))), (0, .ref (A (i)))]) X.1 X.2.1 dX2_foresee_98 hl (k := 2) rfl (by rw [show (Int32.ofInt (1)) = iI (1) from rfl, iI_add]; rfl) (by decide) rfl (fun ls hl => ?_)
          refine lv_goto (tgt := 27) X.1 X.2.1 dX2_foresee_101 (by decide) ?_
          exact ih_27 (c + 1) z_94 (x + 1) (fv + prB Lk ((x + 1 : Nat) : Int) cz * x - bv * x) (prB Lk ((x + 1 : Nat) : Int) cz) g_84 _ _ _ (by have h6 := lvC_le hBg (x + 1); have h7 := lvC_step hk9 hm9 hnx2; omega) (Nat.le_trans (Nat.succ_le_succ hc) (lvC_step hk9 hm9 hnx2)) (by rw [show ((x + 1 : Nat) : Int) = z + 1 from by omega]; exact hL_94) (by omega) (fun _ => rfl) (fun h9 => absurd h9 (by omega)) (fun h9 => absurd h9 (by omega)) hstep n_i___18 n_i___16 n_i___14.any hfr hW (lv_sub hl [2, 1, 0] rfl)
  exact loop_27 _ 0 z_21 0 0 0 g_13 _ _ _ (Nat.lt_succ_self _) (Nat.zero_le _) hL_21 (by omega) (fun h9 => (prB_zero h9).symm) (fun _ => rfl) (fun _ => rfl) rfl n_i___18 n_i___16 n_i___14 hfr hW (lv_sub hl [2, 1, 0] rfl)

set_option maxHeartbeats 4000000 in
set_option maxRecDepth 100000 in
/-- foreseeInto -/
theorem c_X2_foreseeInto (l : Launch) (E : wE) (A : Nat → Nat) (n sz : Nat) (g : Nat → va_E) (i cz : Nat) (bc : Nat → Nat) (tb : Nat → Nat) (Lk : Nat → List (Nat × Nat)) (rc : Nat) (hi : i + 41 < n) (hV : ComV E A g i cz bc tb) (hB : BksV E A g n cz bc Lk) (hdb : ∀ k, k < cz → i + 41 < bc k ∨ bc k + 2 < i) (htp : ∀ k, k < cz → 0 < bE (Lk k) (fun _ => 1)) (hrc : rc + 8 < n) (hRX : ResX E A g rc) (hdr : rc + 8 < i ∨ i + 41 < rc) (hdb2 : ∀ k, k < cz → rc + 8 < bc k ∨ bc k + 2 < rc) : Met l yX2_foreseeInto wsX2_foreseeInto ({ frames := 6, cells := 0, slots := 0, locals := 300 } : Room) (va_Pc [.ref (A (i)), .ref (A (rc))] (wPre E A n sz g)) (va_Qv (fun g' => ResV E A g' rc (rdT ((foS Lk cz 1000 : Nat) : Int) (pr (fun k => bE (Lk k) (fun _ => 1)) cz)) (rdB ((foS Lk cz 1000 : Nat) : Int) (pr (fun k => bE (Lk k) (fun _ => 1)) cz)) ∧ ComV E A g' i cz bc tb ∧ ∀ j, ((j < i ∨ i + 41 < j) ∧ (j < rc ∨ rc + 8 < j)) → g' j = g j) (wAt E A n) (wF A n sz)) 0 0 (wF A n sz) := by
  refine x_met (cc := cX2_foreseeInto) (maxL := 2) (ret := none) [.ref (A (i)), .ref (A (rc))] (by decide) rfl (Nat.le_of_ble_eq_true rfl) ?_
  intro p_ e_ s_ m_ below meth c_ ls X hr hlk hnm hsz hW hl
  have hl : lv_has ls 2 [(0, .ref (A (i))), (1, .ref (A (rc)))] := hl
  have lk_0 : ∀ w ∈ wsX20, w ∈ wsX2_foreseeInto := by decide +kernel
  have lk_1 : Cond.fieldLink RX2 12 (TX2 0).1 (TX2 0).2.1 (TX2 0).2.2.1 ∈ wsX2_foreseeInto := by decide +kernel
  have lk_2 : Cond.fieldLink RX2 48 (TX2 9).1 (TX2 9).2.1 (TX2 9).2.2.1 ∈ wsX2_foreseeInto := by decide +kernel
  obtain ⟨h0, hC, ⟨f6, h6, hf6⟩, ⟨f7, h7⟩, ⟨f8, h8⟩, ⟨f9, h9, hf9⟩, ⟨n_i___10, n_i___12, n_i___14, n_i___16, n_i___18⟩, hMx⟩ := id hV
  have hc0 := hC.1
  have hz10 : cz ≤ 10 := hC.2.1
  refine lv_aload_n X.1 X.2.1 dX2_foreseeInto_0 rfl (lv_at hl 0 rfl) ?_
  refine x_cv (x_runV (k := 0) (As := []) (rest := []) X hW (c_X2_foresee l E A n _ g i cz bc tb Lk hi hV hB hdb) (by omega) h0 rfl gX2_foreseeInto_X2_foresee rfl rfl rfl (by decide +kernel) ⟨by decide, by decide⟩ rfl hl.1 rfl (Nat.le_of_ble_eq_true rfl) dX2_foreseeInto_1 ⟨Nat.zero_le _, Nat.zero_le _⟩) hW (fun g_1 H locs hp_1 hW => ?_)
  obtain ⟨nF, n_i___14, n_i___16, hf_1⟩ := hp_1
  have hV2 : ComV E A g_1 i cz bc tb := hV.fore hf_1 n_i___14 n_i___16 nF.any
  have hC := hC.frame (hf_1 _ (by omega)) (hf_1 _ (by omega))
  have hB : BksV E A g_1 n cz bc Lk := hB.frame (fun k hk => by have := hdb k hk; exact ⟨hf_1 _ (by omega), hf_1 _ (by omega), hf_1 _ (by omega)⟩)
  have hRX := hRX.frame (fun j h1 h2 => hf_1 j (by omega))
  have h0 : g_1 i = .inr (2, [.ref (A (i + 1)), .ref (A (i + 6)), .ref (A (i + 7)), .ref (A (i + 8)), .ref (A (i + 9)), .ref (A (i + 10)), .ref (A (i + 12)), .ref (A (i + 14)), .ref (A (i + 16)), .ref (A (i + 18))]) := by rw [hf_1 _ (by omega)]; exact h0
  have hc0 : g_1 (i + 1) = .inr (3, [.ref (A (i + 1 + 1)), .ref (A (i + 1 + 4)), .int (iI ((cz : Int)))]) := by rw [hf_1 _ (by omega)]; exact hc0
  refine lv_aload_n X.1 X.2.1 dX2_foreseeInto_4 rfl (lv_at hl 0 rfl) ?_
  refine x_get (C := RX2) (T := TX2) (N := 10) X hW (by omega) h0 rfl lk_0 0 (by decide) lk_1 rfl dX2_foreseeInto_5 ?_
  refine lv_aload_n X.1 X.2.1 dX2_foreseeInto_8 rfl (lv_at hl 0 rfl) ?_
  refine x_get (C := RX2) (T := TX2) (N := 10) X hW (by omega) h0 rfl lk_0 9 (by decide) lk_2 rfl dX2_foreseeInto_9 ?_
  refine lv_aload_n X.1 X.2.1 dX2_foreseeInto_12 rfl (lv_at hl 1 rfl) ?_
  refine x_cv (x_runV (k := 2) (As := [.ref (A (i + 18)), .ref (A (rc))]) (rest := []) X hW (c_X3_divide l E A n _ g_1 (i + 1) cz bc Lk (i + 18) rc (foS Lk cz 1000) (by omega) hC hB htp (by omega) hrc nF hRX (by omega) (by omega) hdb2) (by omega) hc0 rfl gX2_foreseeInto_X3_divide rfl rfl rfl (by decide +kernel) ⟨by decide, by decide⟩ rfl hl.1 rfl (Nat.le_of_ble_eq_true rfl) dX2_foreseeInto_13 ⟨Nat.zero_le _, Nat.zero_le _⟩) hW (fun g_13 H locs hp_13 hW => ?_)
  obtain ⟨hRv, hf_13⟩ := hp_13
  have hV3 : ComV E A g_13 i cz bc tb := hV2.frame (fun j h1 h2 => hf_13 j (by omega))
  have hfz : ∀ j, ((j < i ∨ i + 41 < j) ∧ (j < rc ∨ rc + 8 < j)) → g_13 j = g j := fun j hj => (hf_13 j hj.2).trans (hf_1 j (by omega))
  exact x_vret X hr hlk hW (⟨hRv, hV3, hfz⟩) dX2_foreseeInto_16

theorem ac_ge {u v : Nat} (h : 0 ≤ (if u < v then (-1 : Int) else if u = v then 0 else 1)) : v ≤ u := by
  by_cases e : u < v
  · rw [if_pos e] at h; exact absurd h (by decide)
  · omega
theorem ac_lt {u v : Nat} (h : ¬ 0 ≤ (if u < v then (-1 : Int) else if u = v then 0 else 1)) : u < v := by
  by_cases e : u < v
  · exact e
  · rw [if_neg e] at h
    by_cases e2 : u = v
    · rw [if_pos e2] at h; exact absurd (by decide) h
    · rw [if_neg e2] at h; exact absurd (by decide) h
theorem ac_rng (u v : Nat) : I32 (if u < v then (-1 : Int) else if u = v then 0 else 1) := by
  split
  · exact ⟨by decide, by decide⟩
  · split <;> exact ⟨by decide, by decide⟩

theorem ComV.half {E : wE} {A : Nat → Nat} {g g' : Nat → va_E} {i cz : Nat} {bc tb : Nat → Nat} (h : ComV E A g i cz bc tb) (hf : ∀ j, (j ≠ i + 8 ∧ j ≠ i + 11 ∧ j ≠ i + 13 ∧ j ≠ i + 15 ∧ j ≠ i + 17 ∧ j ≠ i + 19) → g' j = g j) (h8 : ∃ f : Nat → Int32, g' (i + 8) = aI E 10 f) (m1 : NatX E A g' (i + 10)) (m2 : NatX E A g' (i + 12)) (n1 : NatX E A g' (i + 14)) (n2 : NatX E A g' (i + 16)) (n3 : NatX E A g' (i + 18)) : ComV E A g' i cz bc tb := by
  obtain ⟨h0, h1, ⟨f6, a6, b6⟩, ⟨f7, a7⟩, _, ⟨f9, a9, b9⟩, _, nk⟩ := h
  exact ⟨(hf _ (by omega)).trans h0, h1.frame (hf _ (by omega)) (hf _ (by omega)), ⟨f6, (hf _ (by omega)).trans a6, b6⟩, ⟨f7, (hf _ (by omega)).trans a7⟩, h8, ⟨f9, (hf _ (by omega)).trans a9, b9⟩, ⟨m1, m2, n1, n2, n3⟩, fun k hk => (nk k hk).frame (hf _ (by omega)) (hf _ (by omega))⟩

set_option maxHeartbeats 4000000 in
set_option maxRecDepth 100000 in
/-- lowestBarForHalf -/
theorem c_X2_lowestBarForHalf (l : Launch) (E : wE) (A : Nat → Nat) (n sz : Nat) (g : Nat → va_E) (i cz : Nat) (bc : Nat → Nat) (tb : Nat → Nat) (Lk : Nat → List (Nat × Nat)) (hi : i + 41 < n) (hV : ComV E A g i cz bc tb) (hB : BksV E A g n cz bc Lk) (hdb : ∀ k, k < cz → i + 41 < bc k ∨ bc k + 2 < i) (hPH : ∃ b, b ≤ 1001 ∧ HF Lk cz b) : Met l yX2_lowestBarForHalf wsX2_lowestBarForHalf ({ frames := 5, cells := 0, slots := 0, locals := 200 } : Room) (va_Pc [.ref (A (i))] (wPre E A n sz g)) (va_Qi (fun r g' => (∃ b : Nat, b ≤ 1001 ∧ r = iI (b : Int) ∧ HF Lk cz b ∧ ∀ c, c < b → ¬ HF Lk cz c) ∧ ComV E A g' i cz bc tb ∧ ∀ j, (j < i ∨ i + 41 < j) → g' j = g j) (wAt E A n) (wF A n sz)) 0 0 (wF A n sz) := by
  refine x_met (cc := cX2_lowestBarForHalf) (maxL := 4) (ret := (some .int)) [.ref (A (i))] (by decide) rfl (Nat.le_of_ble_eq_true rfl) ?_
  intro p_ e_ s_ m_ below meth c_ ls X hr hlk hnm hsz hW hl
  have hl : lv_has ls 4 [(0, .ref (A (i)))] := hl
  have lk_0 : ∀ w ∈ wsX20, w ∈ wsX2_lowestBarForHalf := by decide +kernel
  have lk_1 : Cond.fieldLink RX2 25 (TX2 3).1 (TX2 3).2.1 (TX2 3).2.2.1 ∈ wsX2_lowestBarForHalf := by decide +kernel
  have lk_2 : Cond.fieldLink RX2 35 (TX2 5).1 (TX2 5).2.1 (TX2 5).2.2.1 ∈ wsX2_lowestBarForHalf := by decide +kernel
  have lk_3 : Cond.constantLong RX2 150 (2) ∈ wsX2_lowestBarForHalf := by decide +kernel
  have lk_4 : Cond.fieldLink RX2 12 (TX2 0).1 (TX2 0).2.1 (TX2 0).2.2.1 ∈ wsX2_lowestBarForHalf := by decide +kernel
  have lk_5 : Cond.fieldLink RX2 48 (TX2 9).1 (TX2 9).2.1 (TX2 9).2.2.1 ∈ wsX2_lowestBarForHalf := by decide +kernel
  obtain ⟨h0, hC, ⟨f6, h6, hf6⟩, ⟨f7, h7⟩, ⟨f8, h8⟩, ⟨f9, h9, hf9⟩, ⟨n_i___10, n_i___12, n_i___14, n_i___16, n_i___18⟩, hMx⟩ := id hV
  have hc0 := hC.1
  have hz10 : cz ≤ 10 := hC.2.1
  have hVo := hV
  have hBo := hB
  have htt : ∀ k, k < cz → bE (Lk k) (fun _ => 1) ≤ 8000 ∧ (∀ b : Int, bBelow (Lk k) b ≤ 8000) ∧ ∀ b : Int, bGath (Lk k) b ≤ 8000000 := fun k hk => ⟨(hB k hk).2.tot, (hB k hk).2.le, (hB k hk).2.gle⟩
  have hpc := pow_cap hz10
  refine lv_aload_n X.1 X.2.1 dX2_lowestBarForHalf_0 rfl (lv_at hl 0 rfl) ?_
  refine x_cv (x_runV (k := 0) (As := []) (rest := []) X hW (c_X2_foresee l E A n _ g i cz bc tb Lk hi hV hB hdb) (by omega) h0 rfl gX2_lowestBarForHalf_X2_foresee rfl rfl rfl (by decide +kernel) ⟨by decide, by decide⟩ rfl hl.1 rfl (Nat.le_of_ble_eq_true rfl) dX2_lowestBarForHalf_1 ⟨Nat.zero_le _, Nat.zero_le _⟩) hW (fun g_1 H locs hp_1 hW => ?_)
  obtain ⟨nF, n_i___14, n_i___16, hf_1⟩ := hp_1
  have hV2 : ComV E A g_1 i cz bc tb := hV.fore hf_1 n_i___14 n_i___16 nF.any
  have hC := hC.frame (hf_1 _ (by omega)) (hf_1 _ (by omega))
  have hB : BksV E A g_1 n cz bc Lk := hB.frame (fun k hk => by have := hdb k hk; exact ⟨hf_1 _ (by omega), hf_1 _ (by omega), hf_1 _ (by omega)⟩)
  have h0 : g_1 i = .inr (2, [.ref (A (i + 1)), .ref (A (i + 6)), .ref (A (i + 7)), .ref (A (i + 8)), .ref (A (i + 9)), .ref (A (i + 10)), .ref (A (i + 12)), .ref (A (i + 14)), .ref (A (i + 16)), .ref (A (i + 18))]) := by rw [hf_1 _ (by omega)]; exact h0
  have hc0 : g_1 (i + 1) = .inr (3, [.ref (A (i + 1 + 1)), .ref (A (i + 1 + 4)), .int (iI ((cz : Int)))]) := by rw [hf_1 _ (by omega)]; exact hc0
  have h8 : g_1 (i + 8) = aI E 10 f8 := by rw [hf_1 _ (by omega)]; exact h8
  have h0g := (hf_1 i (by omega)).symm.trans h0
  obtain ⟨_, hCg, _⟩ := id hVo
  have hBg := hBo
  refine x_iconst X dX2_lowestBarForHalf_4 ?_
  refine x_seti (((0 : Nat) : Int)) rfl ?_
  refine lv_istore_n (lv' := [(1, .int (iI (((0 : Nat) : Int)))), (0, .ref (A (i)))]) X.1 X.2.1 dX2_lowestBarForHalf_5 rfl hl (by decide) rfl (fun ls hl => ?_)
  refine x_iconst X dX2_lowestBarForHalf_6 ?_
  refine x_seti (((0 : Nat) : Int)) rfl ?_
  refine lv_istore_n (lv' := [(2, .int (iI (((0 : Nat) : Int)))), (1, .int (iI (((0 : Nat) : Int)))), (0, .ref (A (i)))]) X.1 X.2.1 dX2_lowestBarForHalf_7 rfl hl (by decide) rfl (fun ls hl => ?_)
  have loop_8 : ∀ (fuel : Nat) (c : Nat) (bar : Nat) (fe : Nat → Int32) (gw : Nat → va_E) (H : Heap) (locs : List Loc) (ls : Array Slot), (82 - c) < fuel → (c ≤ lvC Lk cz bar) → (bar ≤ 1001) → (∀ e, e < bar → ¬ HF Lk cz e) → (gw (i + 8) = aI E 10 fe) → (NatV E A gw (i + 18) (foS Lk cz 1000)) → (NatX E A gw (i + 10)) → (NatX E A gw (i + 12)) → (NatX E A gw (i + 14)) → (NatX E A gw (i + 16)) → (∀ j, (j ≠ i + 8 ∧ j ≠ i + 11 ∧ j ≠ i + 13 ∧ j ≠ i + 15 ∧ j ≠ i + 17 ∧ j ≠ i + 19) → gw j = g j) → wH E (wF A n sz) A n s_ gw H locs → lv_has ls 4 [(0, .ref (A (i))), (1, .int (iI (((bar : Nat) : Int)))), (2, .int (iI (((c : Nat) : Int))))] → W p_ l e_ ({ frames := 5, cells := 0, slots := 0, locals := 200 } : Room) s_ m_ [.ref (A (i))].toArray below meth c_ H locs 0 0 (MQ below (va_Qi (fun r g' => (∃ b : Nat, b ≤ 1001 ∧ r = iI (b : Int) ∧ HF Lk cz b ∧ ∀ c, c < b → ¬ HF Lk cz c) ∧ ComV E A g' i cz bc tb ∧ ∀ j, (j < i ∨ i + 41 < j) → g' j = g j) (wAt E A n) (wF A n sz)) [.ref (A (i))].toArray s_ 0 0 (wF A n sz)) (F0 m_ 8 ls []) := by
    intro fuel
    induction fuel with
    | zero => intro c bar fe gw H locs ls hm; exact absurd hm (Nat.not_lt_zero _)
    | succ fuel ih_8 =>
      intro c bar fe gw H locs ls hm hc hbar hnb h8 n_i___18 n_i___10 n_i___12 n_i___14 n_i___16 hfr hW hl
      have hC : CrowdV E A gw (i + 1) cz bc := hCg.frame (hfr _ (by omega)) (hfr _ (by omega))
      have hB : BksV E A gw n cz bc Lk := hBg.frame (fun k hk => by have := hdb k hk; exact ⟨hfr _ (by omega), hfr _ (by omega), hfr _ (by omega)⟩)
      have h0 : gw i = .inr (2, [.ref (A (i + 1)), .ref (A (i + 6)), .ref (A (i + 7)), .ref (A (i + 8)), .ref (A (i + 9)), .ref (A (i + 10)), .ref (A (i + 12)), .ref (A (i + 14)), .ref (A (i + 16)), .ref (A (i + 18))]) := (hfr _ (by omega)).trans h0g
      have hc0 := hC.1
      have hlv := lvC_le hBo bar
      refine lv_iload_n X.1 X.2.1 dX2_lowestBarForHalf_8 rfl (lv_at hl 2 rfl) ?_
      refine x_bipush X (by decide) dX2_lowestBarForHalf_9 ?_
      refine x_icmp_gt (tgt := 80) X ⟨by omega, by omega⟩ ⟨by decide, by decide⟩ dX2_lowestBarForHalf_11 (by decide) (fun b_11 => ?_) (fun b_11 => ?_)
      · exact absurd b_11 (by have h6 := lvC_le hBo bar; omega)
      · have hM1 := foM_le (br := fun _ => bar) htt cz (Nat.le_refl _)
        refine lv_aload_n X.1 X.2.1 dX2_lowestBarForHalf_14 rfl (lv_at hl 0 rfl) ?_
        refine x_get (C := RX2) (T := TX2) (N := 10) X hW (by omega) h0 rfl lk_0 3 (by decide) lk_1 rfl dX2_lowestBarForHalf_15 ?_
        refine lv_iload_n X.1 X.2.1 dX2_lowestBarForHalf_18 rfl (lv_at hl 1 rfl) ?_
        refine x_cv (x_runS (k := 2) (As := [.ref (A (i + 8)), .int (iI (((bar : Nat) : Int)))]) (rest := []) X hW (c_J7_fill_53178 l E A n _ gw (i + 8) 10 fe (bar : Int) (by omega) (by decide) h8) gX2_lowestBarForHalf_J7_fill_53178 rfl rfl rfl (by decide +kernel) ⟨by decide, by decide⟩ rfl hl.1 rfl (Nat.le_of_ble_eq_true rfl) dX2_lowestBarForHalf_19 ⟨Nat.zero_le _, Nat.zero_le _⟩) hW (fun g_19 H locs hp_19 hW => ?_)
        obtain ⟨⟨fe2, h8, hfe2⟩, hf_19⟩ := hp_19
        have h0 : g_19 i = .inr (2, [.ref (A (i + 1)), .ref (A (i + 6)), .ref (A (i + 7)), .ref (A (i + 8)), .ref (A (i + 9)), .ref (A (i + 10)), .ref (A (i + 12)), .ref (A (i + 14)), .ref (A (i + 16)), .ref (A (i + 18))]) := by rw [hf_19 _ (by omega)]; exact h0
        have hc0 : g_19 (i + 1) = .inr (3, [.ref (A (i + 1 + 1)), .ref (A (i + 1 + 4)), .int (iI ((cz : Int)))]) := by rw [hf_19 _ (by omega)]; exact hc0
        have n_i___18 : NatV E A g_19 (i + 18) (foS Lk cz 1000) := n_i___18.frame (hf_19 _ (by omega)) (hf_19 _ (by omega))
        have n_i___10 : NatX E A g_19 (i + 10) := n_i___10.frame (hf_19 _ (by omega)) (hf_19 _ (by omega))
        have n_i___12 : NatX E A g_19 (i + 12) := n_i___12.frame (hf_19 _ (by omega)) (hf_19 _ (by omega))
        have n_i___14 : NatX E A g_19 (i + 14) := n_i___14.frame (hf_19 _ (by omega)) (hf_19 _ (by omega))
        have n_i___16 : NatX E A g_19 (i + 16) := n_i___16.frame (hf_19 _ (by omega)) (hf_19 _ (by omega))
        have hfr : ∀ j, (j ≠ i + 8 ∧ j ≠ i + 11 ∧ j ≠ i + 13 ∧ j ≠ i + 15 ∧ j ≠ i + 17 ∧ j ≠ i + 19) → g_19 j = g j := fun j hj => (hf_19 j (by omega)).trans (hfr j hj)
        have hC : CrowdV E A g_19 (i + 1) cz bc := hCg.frame (hfr _ (by omega)) (hfr _ (by omega))
        have hB : BksV E A g_19 n cz bc Lk := hBg.frame (fun k hk => by have := hdb k hk; exact ⟨hfr _ (by omega), hfr _ (by omega), hfr _ (by omega)⟩)
        refine lv_aload_n X.1 X.2.1 dX2_lowestBarForHalf_22 rfl (lv_at hl 0 rfl) ?_
        refine lv_aload_n X.1 X.2.1 dX2_lowestBarForHalf_23 rfl (lv_at hl 0 rfl) ?_
        refine x_get (C := RX2) (T := TX2) (N := 10) X hW (by omega) h0 rfl lk_0 3 (by decide) lk_1 rfl dX2_lowestBarForHalf_24 ?_
        refine x_cv (x_runV (k := 1) (As := [.ref (A (i + 8))]) (rest := []) X hW (c_X2_follow l E A n _ g_19 i cz bc Lk (i + 8) fe2 (fun _ => bar) hi h0 hC hB hdb (by omega) (Or.inr rfl) h8 (fun k hk => ⟨hbar, hfe2 k (by omega)⟩) n_i___10 n_i___12) (by omega) h0 rfl gX2_lowestBarForHalf_X2_follow rfl rfl rfl (by decide +kernel) ⟨by decide, by decide⟩ rfl hl.1 rfl (Nat.le_of_ble_eq_true rfl) dX2_lowestBarForHalf_27 ⟨Nat.zero_le _, Nat.zero_le _⟩) hW (fun g_27 H locs hp_27 hW => ?_)
        obtain ⟨nM_27, nA_27, hf_27⟩ := hp_27
        have h0 : g_27 i = .inr (2, [.ref (A (i + 1)), .ref (A (i + 6)), .ref (A (i + 7)), .ref (A (i + 8)), .ref (A (i + 9)), .ref (A (i + 10)), .ref (A (i + 12)), .ref (A (i + 14)), .ref (A (i + 16)), .ref (A (i + 18))]) := by rw [hf_27 _ (by omega)]; exact h0
        have hc0 : g_27 (i + 1) = .inr (3, [.ref (A (i + 1 + 1)), .ref (A (i + 1 + 4)), .int (iI ((cz : Int)))]) := by rw [hf_27 _ (by omega)]; exact hc0
        have h8 : g_27 (i + 8) = aI E 10 fe2 := by rw [hf_27 _ (by omega)]; exact h8
        have n_i___18 : NatV E A g_27 (i + 18) (foS Lk cz 1000) := n_i___18.frame (hf_27 _ (by omega)) (hf_27 _ (by omega))
        have n_i___14 : NatX E A g_27 (i + 14) := n_i___14.frame (hf_27 _ (by omega)) (hf_27 _ (by omega))
        have n_i___16 : NatX E A g_27 (i + 16) := n_i___16.frame (hf_27 _ (by omega)) (hf_27 _ (by omega))
        have n_i___10 := nM_27
        have n_i___12 := nA_27.any
        have hfr : ∀ j, (j ≠ i + 8 ∧ j ≠ i + 11 ∧ j ≠ i + 13 ∧ j ≠ i + 15 ∧ j ≠ i + 17 ∧ j ≠ i + 19) → g_27 j = g j := fun j hj => (hf_27 j (by omega)).trans (hfr j hj)
        have hC : CrowdV E A g_27 (i + 1) cz bc := hCg.frame (hfr _ (by omega)) (hfr _ (by omega))
        have hB : BksV E A g_27 n cz bc Lk := hBg.frame (fun k hk => by have := hdb k hk; exact ⟨hfr _ (by omega), hfr _ (by omega), hfr _ (by omega)⟩)
        refine lv_aload_n X.1 X.2.1 dX2_lowestBarForHalf_30 rfl (lv_at hl 0 rfl) ?_
        refine x_get (C := RX2) (T := TX2) (N := 10) X hW (by omega) h0 rfl lk_0 5 (by decide) lk_2 rfl dX2_lowestBarForHalf_31 ?_
        refine x_ldc2 X (2) (by decide) lk_3 dX2_lowestBarForHalf_34 ?_
        refine x_setl (((2 : Nat) : Int)) rfl ?_
        refine x_cv (x_runV (k := 1) (As := [.long (lI (((2 : Nat) : Int)))]) (rest := []) X hW (c_X5_times l E A n _ g_27 (i + 10) (foM Lk (fun _ => bar) cz cz) 2 (by omega) n_i___10 (by decide) (by omega)) (by omega) n_i___10.2.1 rfl gX2_lowestBarForHalf_X5_times rfl rfl rfl (by decide +kernel) ⟨by decide, by decide⟩ rfl hl.1 rfl (Nat.le_of_ble_eq_true rfl) dX2_lowestBarForHalf_37 ⟨Nat.zero_le _, Nat.zero_le _⟩) hW (fun g_37 H locs hp_37 hW => ?_)
        obtain ⟨nv_37, hf_37⟩ := hp_37
        have h0 : g_37 i = .inr (2, [.ref (A (i + 1)), .ref (A (i + 6)), .ref (A (i + 7)), .ref (A (i + 8)), .ref (A (i + 9)), .ref (A (i + 10)), .ref (A (i + 12)), .ref (A (i + 14)), .ref (A (i + 16)), .ref (A (i + 18))]) := by rw [hf_37 _ (by omega)]; exact h0
        have hc0 : g_37 (i + 1) = .inr (3, [.ref (A (i + 1 + 1)), .ref (A (i + 1 + 4)), .int (iI ((cz : Int)))]) := by rw [hf_37 _ (by omega)]; exact hc0
        have h8 : g_37 (i + 8) = aI E 10 fe2 := by rw [hf_37 _ (by omega)]; exact h8
        have n_i___18 : NatV E A g_37 (i + 18) (foS Lk cz 1000) := n_i___18.frame (hf_37 _ (by omega)) (hf_37 _ (by omega))
        have n_i___12 : NatX E A g_37 (i + 12) := n_i___12.frame (hf_37 _ (by omega)) (hf_37 _ (by omega))
        have n_i___14 : NatX E A g_37 (i + 14) := n_i___14.frame (hf_37 _ (by omega)) (hf_37 _ (by omega))
        have n_i___16 : NatX E A g_37 (i + 16) := n_i___16.frame (hf_37 _ (by omega)) (hf_37 _ (by omega))
        have n_i___10 : NatV E A g_37 (i + 10) (foM Lk (fun _ => bar) cz cz * 2) := nv_37
        have hfr : ∀ j, (j ≠ i + 8 ∧ j ≠ i + 11 ∧ j ≠ i + 13 ∧ j ≠ i + 15 ∧ j ≠ i + 17 ∧ j ≠ i + 19) → g_37 j = g j := fun j hj => (hf_37 j (by omega)).trans (hfr j hj)
        have hC : CrowdV E A g_37 (i + 1) cz bc := hCg.frame (hfr _ (by omega)) (hfr _ (by omega))
        have hB : BksV E A g_37 n cz bc Lk := hBg.frame (fun k hk => by have := hdb k hk; exact ⟨hfr _ (by omega), hfr _ (by omega), hfr _ (by omega)⟩)
        refine lv_aload_n X.1 X.2.1 dX2_lowestBarForHalf_40 rfl (lv_at hl 0 rfl) ?_
        refine x_get (C := RX2) (T := TX2) (N := 10) X hW (by omega) h0 rfl lk_0 0 (by decide) lk_4 rfl dX2_lowestBarForHalf_41 ?_
        refine lv_iload_n X.1 X.2.1 dX2_lowestBarForHalf_44 rfl (lv_at hl 1 rfl) ?_
        refine x_ci (x_runV (k := 1) (As := [.int (iI (((bar : Nat) : Int)))]) (rest := []) X hW (c_X3_leastFrom l E A n _ g_37 (i + 1) cz bc Lk ((bar : Int)) (by omega) hC hB ⟨by omega, by omega⟩) (by omega) hc0 rfl gX2_lowestBarForHalf_X3_leastFrom rfl rfl rfl (by decide +kernel) ⟨by decide, by decide⟩ rfl hl.1 rfl (Nat.le_of_ble_eq_true rfl) dX2_lowestBarForHalf_45 ⟨Nat.zero_le _, Nat.zero_le _⟩) hW (fun r_45 g_45 H locs hp_45 hW => ?_)
        obtain ⟨⟨z_45, hz_45, hL_45⟩, he_45⟩ := hp_45
        rw [he_45] at hW
        subst hz_45
        have hzr_45 := LFC_rng hL_45
        refine lv_istore_n (lv' := [(3, .int (iI (z_45))), (0, .ref (A (i))), (1, .int (iI (((bar : Nat) : Int)))), (2, .int (iI (((c : Nat) : Int))))]) X.1 X.2.1 dX2_lowestBarForHalf_48 rfl hl (by decide) rfl (fun ls hl => ?_)
        refine lv_aload_n X.1 X.2.1 dX2_lowestBarForHalf_49 rfl (lv_at hl 1 rfl) ?_
        refine x_get (C := RX2) (T := TX2) (N := 10) X hW (by omega) h0 rfl lk_0 5 (by decide) lk_2 rfl dX2_lowestBarForHalf_50 ?_
        refine lv_aload_n X.1 X.2.1 dX2_lowestBarForHalf_53 rfl (lv_at hl 1 rfl) ?_
        refine x_get (C := RX2) (T := TX2) (N := 10) X hW (by omega) h0 rfl lk_0 9 (by decide) lk_5 rfl dX2_lowestBarForHalf_54 ?_
        refine x_ci (x_runV (k := 1) (As := [.ref (A (i + 18))]) (rest := []) X hW (c_X5_against l E A n _ g_37 (i + 10) (i + 18) (foM Lk (fun _ => bar) cz cz * 2) (foS Lk cz 1000) (by omega) (by omega) n_i___10 n_i___18) (by omega) n_i___10.2.1 rfl gX2_lowestBarForHalf_X5_against rfl rfl rfl (by decide +kernel) ⟨by decide, by decide⟩ rfl hl.1 rfl (Nat.le_of_ble_eq_true rfl) dX2_lowestBarForHalf_57 ⟨Nat.zero_le _, Nat.zero_le _⟩) hW (fun r_57 g_57 H locs hp_57 hW => ?_)
        obtain ⟨hr_57, he_57⟩ := hp_57
        rw [he_57] at hW
        subst hr_57
        refine x_if_ge (tgt := 68) X (ac_rng _ _) dX2_lowestBarForHalf_60 (by decide) (fun b_60 => ?_) (fun b_60 => ?_)
        · have hys : HF Lk cz bar := by unfold HF; have := ac_ge b_60; omega
          refine lv_iload_n X.1 X.2.1 dX2_lowestBarForHalf_68 rfl (lv_at hl 2 rfl) ?_
          exact x_iret X hr hlk hW (⟨⟨bar, hbar, rfl, hys, hnb⟩, hVo.half hfr ⟨_, h8⟩ n_i___10.any n_i___12 n_i___14 n_i___16 n_i___18.any, fun j hj => hfr j (by omega)⟩) dX2_lowestBarForHalf_69
        · have hno : ¬ HF Lk cz bar := by unfold HF; have := ac_lt b_60; omega
          refine lv_iload_n X.1 X.2.1 dX2_lowestBarForHalf_63 rfl (lv_at hl 0 rfl) ?_
          refine x_iconst X dX2_lowestBarForHalf_64 ?_
          refine x_icmp_ne (tgt := 70) X ⟨by omega, by omega⟩ ⟨by decide, by decide⟩ dX2_lowestBarForHalf_65 (by decide) (fun b_65 => ?_) (fun b_65 => ?_)
          · obtain ⟨x, hzx, hx1, hx2, ⟨k9, hk9, hm9⟩, hx4⟩ := hL_45.resolve_left (fun h8 => b_65 h8.1)
            refine lv_iload_n X.1 X.2.1 dX2_lowestBarForHalf_70 rfl (lv_at hl 0 rfl) ?_
            refine x_iconst X dX2_lowestBarForHalf_71 ?_
            refine x_iadd X dX2_lowestBarForHalf_72 ?_
            refine x_seti (((x + 1 : Nat) : Int)) (by omega) ?_
            refine lv_istore_n (lv' := [(1, .int (iI (((x + 1 : Nat) : Int)))), (3, .int (iI (z_45))), (0, .ref (A (i))), (2, .int (iI (((c : Nat) : Int))))]) X.1 X.2.1 dX2_lowestBarForHalf_73 rfl hl (by decide) rfl (fun ls hl => ?_)
            refine lv_iinc (v := iI (((c + 1 : Nat) : Int))) (lv' := [(2, .int (iI (((c + 1 : Nat) : Int)))), (1, .int (iI (((x + 1 : Nat) : Int)))), (3, .int (iI (z_45))), (0, .ref (A (i)))]) X.1 X.2.1 dX2_lowestBarForHalf_74 hl (k := 3) rfl (by rw [show (Int32.ofInt (1)) = iI (1) from rfl, iI_add]; rfl) (by decide) rfl (fun ls hl => ?_)
            refine lv_goto (tgt := 8) X.1 X.2.1 dX2_lowestBarForHalf_77 (by decide) ?_
            exact ih_8 (c + 1) (x + 1) fe2 g_37 _ _ _ (by have h6 := lvC_le hBo bar; omega) (Nat.le_trans (Nat.succ_le_succ hc) (lvC_step hk9 hm9 (by omega))) (by omega) (fun e he h9 => by
            by_cases h7 : e < bar
            · exact hnb e h7 h9
            · refine hno ?_
              unfold HF at h9 ⊢
              rw [foM_flat (fun y h1 h2 k hk => hx4 y (by omega) (by omega) k hk) (show bar ≤ e by omega) cz (Nat.le_refl _)] at h9
              exact h9) h8 n_i___18 n_i___10.any n_i___12 n_i___14 n_i___16 hfr hW (lv_sub hl [3, 1, 0] rfl)
          · exact absurd hPH (fun ⟨b, hb1, hb2⟩ => by
          by_cases h9 : b < bar
          · exact hnb b h9 hb2
          · refine hno ?_
            unfold HF at hb2 ⊢
            rw [foM_flat (fun y h1 h2 k hk => (hL_45.resolve_right (fun h8 => by obtain ⟨x8, h8, _⟩ := h8; omega)).2 y (by omega) k hk) (show bar ≤ b by omega) cz (Nat.le_refl _)] at hb2
            exact hb2)
  exact loop_8 _ 0 0 f8 g_1 _ _ _ (Nat.lt_succ_self _) (Nat.zero_le _) (by omega) (fun e he => absurd he (Nat.not_lt_zero _)) h8 nF (n_i___10.frame (hf_1 _ (by omega)) (hf_1 _ (by omega))) (n_i___12.frame (hf_1 _ (by omega)) (hf_1 _ (by omega))) n_i___14 n_i___16 (fun j hj => hf_1 j (by omega)) hW (lv_sub hl [2, 1, 0] rfl)
