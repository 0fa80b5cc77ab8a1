/-! ===== the reference: the common divisor, the least multiple, letting and pass ===== -/
def rmC (d : Nat) : Room := { frames := d + 1, cells := 0, slots := 0, locals := 30 * (d + 1) }

set_option maxHeartbeats 4000000 in
set_option maxRecDepth 100000 in
/-- common: one step -/
theorem c_X11_common_s (l : Launch) (E : wE) (A : Nat → Nat) (n sz : Nat) (g : Nat → va_E) (a b d : Nat) (ih : ∀ (l : Launch) (E : wE) (A : Nat → Nat) (n sz : Nat) (g : Nat → va_E) (a b d2 : Nat), d2 < d → b ≤ d2 → a < 2147483648 → Met l yX11_common wsX11_common (rmC d2) (va_Pc [.int (iI ((a : Int))), .int (iI ((b : Int)))] (wPre E A n sz g)) (va_Qi (fun r g' => r = iI ((Nat.gcd a b : Nat) : Int) ∧ g' = g) (wAt E A n) (wF A n sz)) 0 0 (wF A n sz)) (hb : b ≤ d) (ha : a < 2147483648) (hd : d < 2147483648) : Met l yX11_common wsX11_common ({ frames := d + 1, cells := 0, slots := 0, locals := 30 * (d + 1) } : Room) (va_Pc [.int (iI ((a : Int))), .int (iI ((b : Int)))] (wPre E A n sz g)) (va_Qi (fun r g' => r = iI ((Nat.gcd a b : Nat) : Int) ∧ g' = g) (wAt E A n) (wF A n sz)) 0 0 (wF A n sz) := by
  refine x_met (cc := cX11_common) (maxL := 2) (ret := (some .int)) [.int (iI ((a : Int))), .int (iI ((b : Int)))] (by decide) rfl (Nat.le_of_ble_eq_true rfl) ?_
  intro p_ e_ s_ m_ below meth c_ ls X hr hlk hnm hsz hW hl
  have hl : lv_has ls 2 [(0, .int (iI ((a : Int)))), (1, .int (iI ((b : Int))))] := hl
  refine lv_iload_n X.1 X.2.1 dX11_common_0 rfl (lv_at hl 1 rfl) ?_
  refine x_if_ne (tgt := 8) X ⟨by omega, by omega⟩ dX11_common_1 (by decide) (fun b_1 => ?_) (fun b_1 => ?_)
  · obtain ⟨e, he⟩ : ∃ e, d = e + 1 := ⟨d - 1, by omega⟩
    have hbp : 0 < b := by omega
    have hml := Nat.mod_lt a hbp
    refine lv_iload_n X.1 X.2.1 dX11_common_8 rfl (lv_at hl 1 rfl) ?_
    refine lv_iload_n X.1 X.2.1 dX11_common_9 rfl (lv_at hl 0 rfl) ?_
    refine lv_iload_n X.1 X.2.1 dX11_common_10 rfl (lv_at hl 1 rfl) ?_
    refine x_irem X ⟨by omega, by omega⟩ ⟨by omega, by omega⟩ (by omega) (by omega) dX11_common_11 ?_
    refine x_seti (((a % b : Nat) : Int)) rfl ?_
    refine x_ci (x_runS (k := 2) (As := [.int (iI ((b : Int))), .int (iI ((a % b : Nat) : Int))]) (rest := []) X hW (ih l E A n _ g b (a % b) e (by omega) (by omega) (by omega)) gX11_common_X11_common rfl rfl rfl (by decide +kernel) ⟨by show e + 1 + 1 ≤ d + 1; omega, by show 8 + (2 + 11) + 30 * (e + 1) ≤ 30 * (d + 1); omega⟩ rfl hl.1 rfl (Nat.le_of_ble_eq_true rfl) dX11_common_12 ⟨Nat.zero_le _, Nat.zero_le _⟩) hW (fun r_12 g_12 H locs hp_12 hW => ?_)
    obtain ⟨hr_12, he_12⟩ := hp_12
    rw [he_12] at hW
    subst hr_12
    exact x_iret X hr hlk hW (⟨by rw [Nat.gcd_comm a b, Nat.gcd_rec b a, Nat.gcd_comm b (a % b)], rfl⟩) dX11_common_15
  · refine lv_iload_n X.1 X.2.1 dX11_common_4 rfl (lv_at hl 0 rfl) ?_
    refine lv_goto (tgt := 15) X.1 X.2.1 dX11_common_5 (by decide) ?_
    exact x_iret X hr hlk hW (⟨by rw [show b = 0 from by omega, Nat.gcd_zero_right], rfl⟩) dX11_common_15

theorem c_X11_commonD : ∀ (d : Nat), d < 2147483648 → ∀ (l : Launch) (E : wE) (A : Nat → Nat) (n sz : Nat) (g : Nat → va_E) (a b : Nat), b ≤ d → a < 2147483648 → Met l yX11_common wsX11_common (rmC d) (va_Pc [.int (iI ((a : Int))), .int (iI ((b : Int)))] (wPre E A n sz g)) (va_Qi (fun r g' => r = iI ((Nat.gcd a b : Nat) : Int) ∧ g' = g) (wAt E A n) (wF A n sz)) 0 0 (wF A n sz) := by
  intro d
  induction d using Nat.strongRecOn with
  | ind d ih =>
    intro hd l E A n sz g a b hb ha
    exact c_X11_common_s l E A n sz g a b d (fun l E A n sz g a b d2 h1 h2 h3 => ih d2 h1 (by omega) l E A n sz g a b h2 h3) hb ha hd
theorem c_X11_common (l : Launch) (E : wE) (A : Nat → Nat) (n sz : Nat) (g : Nat → va_E) (a b : Nat) (hb : b ≤ 59) (ha : a < 2147483648) : Met l yX11_common wsX11_common ({ frames := 60, cells := 0, slots := 0, locals := 1800 } : Room) (va_Pc [.int (iI ((a : Int))), .int (iI ((b : Int)))] (wPre E A n sz g)) (va_Qi (fun r g' => r = iI ((Nat.gcd a b : Nat) : Int) ∧ g' = g) (wAt E A n) (wF A n sz)) 0 0 (wF A n sz) := c_X11_commonD 59 (by decide) l E A n sz g a b hb ha
/-- the least number that all of 1 to t + 1 divide -/
def mlc : Nat → Nat
  | 0 => 1
  | t + 1 => mlc t * ((t + 2) / Nat.gcd (t + 2) (dvR (mlc t) (t + 2) 0))
theorem dvR_0 (v d : Nat) : dvR v d 0 = v % d := by unfold dvR; rw [Nat.pow_zero, Nat.div_one]
theorem mlc_lcm (t : Nat) : mlc (t + 1) = Nat.lcm (mlc t) (t + 2) := by
  show mlc t * ((t + 2) / Nat.gcd (t + 2) (dvR (mlc t) (t + 2) 0)) = _
  rw [dvR_0, Nat.gcd_comm, ← Nat.gcd_rec, ← Nat.mul_div_assoc _ (Nat.gcd_dvd_left (t + 2) (mlc t)), Nat.gcd_comm]
  rfl
def ppW : Nat := 32 * 27 * 25 * 49 * 11 * 13 * 17 * 19 * 23 * 29 * 31 * 37 * 41 * 43 * 47 * 53 * 59
theorem ppW_all : ∀ k, k < 60 → 1 ≤ k → ppW % k = 0 := by decide +kernel
theorem mlc_W : ∀ t, t ≤ 58 → mlc t ∣ ppW := by
  intro t
  induction t with
  | zero => intro _; exact Nat.one_dvd _
  | succ t ih =>
    intro ht
    rw [mlc_lcm]
    exact Nat.lcm_dvd (ih (by omega)) (Nat.dvd_of_mod_eq_zero (ppW_all (t + 2) (by omega) (by omega)))
theorem mlc_all : ∀ t k, 1 ≤ k → k ≤ t + 1 → k ∣ mlc t := by
  intro t
  induction t with
  | zero => intro k h1 h2; rw [show k = 1 from by omega]; exact Nat.one_dvd _
  | succ t ih =>
    intro k h1 h2
    rw [mlc_lcm]
    by_cases e : k = t + 2
    · rw [e]; exact Nat.dvd_lcm_right _ _
    · exact Nat.dvd_trans (ih k h1 (by omega)) (Nat.dvd_lcm_left _ _)
theorem mlc_cap {t : Nat} (h : t ≤ 58) : mlc t ≤ 10 ^ 30 ∧ 0 < mlc t :=
  ⟨Nat.le_trans (Nat.le_of_dvd (by decide) (mlc_W t h)) (by decide), Nat.pos_of_dvd_of_pos (mlc_W t h) (by decide)⟩
theorem dvR_10 {v d : Nat} (h : v ≤ 10 ^ 30) : dvR v d 10 = 0 := by
  unfold dvR
  rw [Nat.div_eq_of_lt (Nat.lt_of_le_of_lt h (by decide)), Nat.zero_mod]
def ltS (B r : Nat) : Nat → Nat
  | 0 => 0
  | u + 1 => ltS B r u + B / (r + u)
def ltV (B nn r : Nat) : Nat := if r = 0 then B else ltS B r (nn - r) * r
theorem ltS_le (B r : Nat) : ∀ u, ltS B r u ≤ u * B := by
  intro u
  induction u with
  | zero => exact Nat.zero_le _
  | succ u ih => show ltS B r u + B / (r + u) ≤ (u + 1) * B; rw [Nat.add_mul, Nat.one_mul]; exact Nat.add_le_add ih (Nat.div_le_self _ _)
theorem ltV_le {B nn r : Nat} (hn : nn ≤ 60) (hr : r ≤ 60) : ltV B nn r ≤ 3600 * B := by
  unfold ltV
  split
  · omega
  · have h1 := ltS_le B r (nn - r)
    have h2 : (nn - r) * B ≤ 60 * B := Nat.mul_le_mul_right _ (by omega)
    have h3 : ltS B r (nn - r) * r ≤ (60 * B) * 60 := Nat.mul_le_mul (by omega) hr
    omega
def psM (B nn : Nat) : Nat → Nat
  | 0 => ltV B nn 0
  | r + 1 => if psM B nn r < ltV B nn (r + 1) then ltV B nn (r + 1) else psM B nn r
def psB (B nn : Nat) : Nat → Nat
  | 0 => 0
  | r + 1 => if psM B nn r < ltV B nn (r + 1) then r + 1 else psB B nn r
theorem psM_le {B nn : Nat} (hn : nn ≤ 60) : ∀ r, r ≤ 60 → psM B nn r ≤ 3600 * B := by
  intro r
  induction r with
  | zero => intro _; exact ltV_le hn (by omega)
  | succ r ih =>
    intro hr
    show (if psM B nn r < ltV B nn (r + 1) then ltV B nn (r + 1) else psM B nn r) ≤ _
    split
    · exact ltV_le hn hr
    · exact ih (by omega)

set_option maxHeartbeats 4000000 in
set_option maxRecDepth 100000 in
/-- multiple -/
theorem c_X11_multiple (l : Launch) (E : wE) (A : Nat → Nat) (n sz : Nat) (g : Nat → va_E) (i : Nat) (q : Nat → Int) (N : Nat → Int) (nn : Nat) (hi : i + 16 < n) (hO : g i = mO A i q) (hN : MN E A g i N) (hn1 : 1 ≤ nn) (hn2 : nn ≤ 60) : Met l yX11_multiple wsX11_multiple ({ frames := 61, cells := 0, slots := 0, locals := 1900 } : Room) (va_Pc [.ref (A (i)), .int (iI (3)), .int (iI ((nn : Int)))] (wPre E A n sz g)) (va_Qv (fun g' => (∃ N' : Nat → Int, MN E A g' i N' ∧ N' 3 = ((mlc (nn - 2) : Nat) : Int) ∧ ∀ x, (x ≠ 3 ∧ x ≠ 6) → N' x = N x) ∧ ∀ j, j ≠ i + 1 → g' j = g j) (wAt E A n) (wF A n sz)) 0 0 (wF A n sz) := by
  refine x_met (cc := cX11_multiple) (maxL := 7) (ret := none) [.ref (A (i)), .int (iI (3)), .int (iI ((nn : Int)))] (by decide) rfl (Nat.le_of_ble_eq_true rfl) ?_
  intro p_ e_ s_ m_ below meth c_ ls X hr hlk hnm hsz hW hl
  have hl : lv_has ls 7 [(0, .ref (A (i))), (1, .int (iI (3))), (2, .int (iI ((nn : Int))))] := hl
  have lk_0 : Cond.constantLong RX11 64 (1000000000) ∈ wsX11_multiple := by decide +kernel
  have lk_1 : ∀ w ∈ wsX110, w ∈ wsX11_multiple := by decide +kernel
  have lk_2 : Cond.fieldLink RX11 10 (TX11 0).1 (TX11 0).2.1 (TX11 0).2.2.1 ∈ wsX11_multiple := by decide +kernel
  have hO : g i = .inr (11, [.ref (A (i + 1)), .ref (A (i + 2)), .ref (A (i + 3)), .ref (A (i + 4)), .int (iI (q 0)), .ref (A (i + 5)), .ref (A (i + 6)), .ref (A (i + 7)), .ref (A (i + 8)), .int (iI (q 1)), .ref (A (i + 9)), .ref (A (i + 10)), .ref (A (i + 11)), .int (iI (q 2)), .ref (A (i + 12)), .ref (A (i + 13)), .int (iI (q 3)), .ref (A (i + 14)), .ref (A (i + 15)), .ref (A (i + 16)), .int (iI (q 4))]) := hO
  have hOg := hO
  have hfr : ∀ j, j ≠ i + 1 → g j = g j := fun _ _ => rfl
  have hoth : ∀ x, (x ≠ 3 ∧ x ≠ 6) → N x = N x := fun _ _ => rfl
  refine lv_aload_n X.1 X.2.1 dX11_multiple_0 rfl (lv_at hl 0 rfl) ?_
  refine lv_iload_n X.1 X.2.1 dX11_multiple_1 rfl (lv_at hl 1 rfl) ?_
  refine x_lconst X 1 (by decide) dX11_multiple_2 ?_
  refine x_cv (x_runV (k := 2) (As := [.int (iI (3)), .long (lI (1))]) (rest := []) X hW (c_X11_set l E A n _ g i (3) q N (1) hi hO (by omega) hN (by decide) (by decide)) (by omega) hO rfl gX11_multiple_X11_set rfl rfl rfl (by decide +kernel) ⟨by decide, by decide⟩ rfl hl.1 rfl (Nat.le_of_ble_eq_true rfl) dX11_multiple_3 ⟨Nat.zero_le _, Nat.zero_le _⟩) hW (fun g_3 H locs hp_3 hW => ?_)
  obtain ⟨hN, hf_3⟩ := hp_3
  obtain ⟨N_3, hN_3⟩ : ∃ N9 : Nat → Int, N9 = va_up N 3 (1) := ⟨_, rfl⟩
  rw [← hN_3] at hN
  have hO : g_3 i = .inr (11, [.ref (A (i + 1)), .ref (A (i + 2)), .ref (A (i + 3)), .ref (A (i + 4)), .int (iI (q 0)), .ref (A (i + 5)), .ref (A (i + 6)), .ref (A (i + 7)), .ref (A (i + 8)), .int (iI (q 1)), .ref (A (i + 9)), .ref (A (i + 10)), .ref (A (i + 11)), .int (iI (q 2)), .ref (A (i + 12)), .ref (A (i + 13)), .int (iI (q 3)), .ref (A (i + 14)), .ref (A (i + 15)), .ref (A (i + 16)), .int (iI (q 4))]) := by rw [hf_3 _ (by omega)]; exact hO
  have v_3 : N_3 3 = 1 := by rw [hN_3, va_up_self]
  have hoth : ∀ x, (x ≠ 3 ∧ x ≠ 6) → N_3 x = N x := fun x hx => (congrFun hN_3 x).trans ((va_up_ne _ _ (by omega)).trans (hoth x hx))
  have hfr : ∀ j, j ≠ i + 1 → g_3 j = g j := fun j hj => (hf_3 j hj).trans (hfr j hj)
  refine x_iconst X dX11_multiple_6 ?_
  refine x_seti (((0 + 2 : Nat) : Int)) rfl ?_
  refine lv_istore_n (lv' := [(3, .int (iI (((0 + 2 : Nat) : Int)))), (0, .ref (A (i))), (1, .int (iI (3))), (2, .int (iI ((nn : Int))))]) X.1 X.2.1 dX11_multiple_7 rfl hl (by decide) rfl (fun ls hl => ?_)
  have loop_8 : ∀ (fuel : Nat) (t : Nat) (N1 : Nat → Int) (g1 : Nat → va_E) (H : Heap) (locs : List Loc) (ls : Array Slot), (nn - t) < fuel → (t ≤ nn - 2) → (MN E A g1 i N1) → (N1 3 = ((mlc t : Nat) : Int)) → (∀ x, (x ≠ 3 ∧ x ≠ 6) → N1 x = N x) → (∀ j, j ≠ i + 1 → g1 j = g j) → wH E (wF A n sz) A n s_ g1 H locs → lv_has ls 7 [(0, .ref (A (i))), (1, .int (iI (3))), (2, .int (iI ((nn : Int)))), (3, .int (iI (((t + 2 : Nat) : Int))))] → W p_ l e_ ({ frames := 61, cells := 0, slots := 0, locals := 1900 } : Room) s_ m_ [.ref (A (i)), .int (iI (3)), .int (iI ((nn : Int)))].toArray below meth c_ H locs 0 0 (MQ below (va_Qv (fun g' => (∃ N' : Nat → Int, MN E A g' i N' ∧ N' 3 = ((mlc (nn - 2) : Nat) : Int) ∧ ∀ x, (x ≠ 3 ∧ x ≠ 6) → N' x = N x) ∧ ∀ j, j ≠ i + 1 → g' j = g j) (wAt E A n) (wF A n sz)) [.ref (A (i)), .int (iI (3)), .int (iI ((nn : Int)))].toArray s_ 0 0 (wF A n sz)) (F0 m_ 8 ls []) := by
    intro fuel
    induction fuel with
    | zero => intro t N1 g1 H locs ls hm; exact absurd hm (Nat.not_lt_zero _)
    | succ fuel ih_8 =>
      intro t N1 g1 H locs ls hm ht hN v_3 hoth hfr hW hl
      have hO : g1 i = .inr (11, [.ref (A (i + 1)), .ref (A (i + 2)), .ref (A (i + 3)), .ref (A (i + 4)), .int (iI (q 0)), .ref (A (i + 5)), .ref (A (i + 6)), .ref (A (i + 7)), .ref (A (i + 8)), .int (iI (q 1)), .ref (A (i + 9)), .ref (A (i + 10)), .ref (A (i + 11)), .int (iI (q 2)), .ref (A (i + 12)), .ref (A (i + 13)), .int (iI (q 3)), .ref (A (i + 14)), .ref (A (i + 15)), .ref (A (i + 16)), .int (iI (q 4))]) := (hfr _ (by omega)).trans hOg
      refine lv_iload_n X.1 X.2.1 dX11_multiple_8 rfl (lv_at hl 3 rfl) ?_
      refine lv_iload_n X.1 X.2.1 dX11_multiple_9 rfl (lv_at hl 2 rfl) ?_
      refine x_icmp_ge (tgt := 81) X ⟨by omega, by omega⟩ ⟨by omega, by omega⟩ dX11_multiple_10 (by decide) (fun b_10 => ?_) (fun b_10 => ?_)
      · rw [show t = nn - 2 from by omega] at v_3
        exact x_vret X hr hlk hW (⟨⟨N1, hN, v_3, hoth⟩, hfr⟩) dX11_multiple_81
      · have hcp := mlc_cap (t := t) (by omega)
        have hcp1 := mlc_cap (t := t + 1) (by omega)
        refine lv_aload_n X.1 X.2.1 dX11_multiple_13 rfl (lv_at hl 0 rfl) ?_
        refine x_bipush X (by decide) dX11_multiple_14 ?_
        refine lv_iload_n X.1 X.2.1 dX11_multiple_16 rfl (lv_at hl 1 rfl) ?_
        refine x_cv (x_runV (k := 2) (As := [.int (iI (6)), .int (iI (3))]) (rest := []) X hW (c_X11_copy l E A n _ g1 i (6) (3) q N1 hi hO (by omega) (by omega) (by omega) hN) (by omega) hO rfl gX11_multiple_X11_copy rfl rfl rfl (by decide +kernel) ⟨by decide, by decide⟩ rfl hl.1 rfl (Nat.le_of_ble_eq_true rfl) dX11_multiple_17 ⟨Nat.zero_le _, Nat.zero_le _⟩) hW (fun g_17 H locs hp_17 hW => ?_)
        obtain ⟨hN, hf_17⟩ := hp_17
        obtain ⟨N_17, hN_17⟩ : ∃ N9 : Nat → Int, N9 = va_up N1 6 (N1 (3)) := ⟨_, rfl⟩
        rw [← hN_17] at hN
        have hO : g_17 i = .inr (11, [.ref (A (i + 1)), .ref (A (i + 2)), .ref (A (i + 3)), .ref (A (i + 4)), .int (iI (q 0)), .ref (A (i + 5)), .ref (A (i + 6)), .ref (A (i + 7)), .ref (A (i + 8)), .int (iI (q 1)), .ref (A (i + 9)), .ref (A (i + 10)), .ref (A (i + 11)), .int (iI (q 2)), .ref (A (i + 12)), .ref (A (i + 13)), .int (iI (q 3)), .ref (A (i + 14)), .ref (A (i + 15)), .ref (A (i + 16)), .int (iI (q 4))]) := by rw [hf_17 _ (by omega)]; exact hO
        have v_6 : N_17 6 = ((mlc t : Nat) : Int) := by rw [hN_17, va_up_self, v_3]
        have v_3 : N_17 3 = ((mlc t : Nat) : Int) := by rw [hN_17, va_up_ne _ _ (by omega)]; exact v_3
        have hoth : ∀ x, (x ≠ 3 ∧ x ≠ 6) → N_17 x = N x := fun x hx => (congrFun hN_17 x).trans ((va_up_ne _ _ (by omega)).trans (hoth x hx))
        have hfr : ∀ j, j ≠ i + 1 → g_17 j = g j := fun j hj => (hf_17 j hj).trans (hfr j hj)
        refine x_lconst X 0 (by decide) dX11_multiple_20 ?_
        refine x_setl (((dvR (mlc t) (t + 2) 10 : Nat) : Int)) (by rw [dvR_10 hcp.1]; rfl) ?_
        refine lv_lstore (lv' := [(4, .long (lI (((dvR (mlc t) (t + 2) 10 : Nat) : Int)))), (0, .ref (A (i))), (1, .int (iI (3))), (2, .int (iI ((nn : Int)))), (3, .int (iI (((t + 2 : Nat) : Int))))]) X.1 X.2.1 dX11_multiple_21 hl (by decide) rfl (fun ls hl => ?_)
        refine x_bipush X (by decide) dX11_multiple_23 ?_
        refine x_seti (((10 : Nat) : Int) - 1) rfl ?_
        refine lv_istore (lv' := [(6, .int (iI (((10 : Nat) : Int) - 1))), (4, .long (lI (((dvR (mlc t) (t + 2) 10 : Nat) : Int)))), (0, .ref (A (i))), (1, .int (iI (3))), (2, .int (iI ((nn : Int)))), (3, .int (iI (((t + 2 : Nat) : Int))))]) X.1 X.2.1 dX11_multiple_25 hl (by decide) rfl (fun ls hl => ?_)
        have loop_27 : ∀ (fuel : Nat) (e : Nat) (g2 : Nat → va_E) (H : Heap) (locs : List Loc) (ls : Array Slot), (e) < fuel → (e ≤ 10) → (g2 = g_17) → wH E (wF A n sz) A n s_ g2 H locs → lv_has ls 7 [(0, .ref (A (i))), (1, .int (iI (3))), (2, .int (iI ((nn : Int)))), (3, .int (iI (((t + 2 : Nat) : Int)))), (4, .long (lI (((dvR (mlc t) (t + 2) e : Nat) : Int)))), (6, .int (iI ((e : Int) - 1)))] → W p_ l e_ ({ frames := 61, cells := 0, slots := 0, locals := 1900 } : Room) s_ m_ [.ref (A (i)), .int (iI (3)), .int (iI ((nn : Int)))].toArray below meth c_ H locs 0 0 (MQ below (va_Qv (fun g' => (∃ N' : Nat → Int, MN E A g' i N' ∧ N' 3 = ((mlc (nn - 2) : Nat) : Int) ∧ ∀ x, (x ≠ 3 ∧ x ≠ 6) → N' x = N x) ∧ ∀ j, j ≠ i + 1 → g' j = g j) (wAt E A n) (wF A n sz)) [.ref (A (i)), .int (iI (3)), .int (iI ((nn : Int)))].toArray s_ 0 0 (wF A n sz)) (F0 m_ 27 ls []) := by
          intro fuel
          induction fuel with
          | zero => intro e g2 H locs ls hm; exact absurd hm (Nat.not_lt_zero _)
          | succ fuel ih_27 =>
            intro e g2 H locs ls hm he hgg hW hl
            have hO : g2 i = .inr (11, [.ref (A (i + 1)), .ref (A (i + 2)), .ref (A (i + 3)), .ref (A (i + 4)), .int (iI (q 0)), .ref (A (i + 5)), .ref (A (i + 6)), .ref (A (i + 7)), .ref (A (i + 8)), .int (iI (q 1)), .ref (A (i + 9)), .ref (A (i + 10)), .ref (A (i + 11)), .int (iI (q 2)), .ref (A (i + 12)), .ref (A (i + 13)), .int (iI (q 3)), .ref (A (i + 14)), .ref (A (i + 15)), .ref (A (i + 16)), .int (iI (q 4))]) := by rw [hgg]; exact hO
            have hN : MN E A g2 i N_17 := by rw [hgg]; exact hN
            have hfr : ∀ j, j ≠ i + 1 → g2 j = g j := by rw [hgg]; exact hfr
            obtain ⟨nf, h1, hNv⟩ := id hN
            have hdm : dvR (mlc t) (t + 2) e < t + 2 := Nat.mod_lt _ (by omega)
            refine lv_iload X.1 X.2.1 dX11_multiple_27 (lv_at hl 5 rfl) ?_
            refine x_if_lt (tgt := 60) X ⟨by omega, by omega⟩ dX11_multiple_29 (by decide) (fun b_29 => ?_) (fun b_29 => ?_)
            · have he0 : e = 0 := by omega
              have hms : mlc (t + 1) = mlc t * ((t + 2) / Nat.gcd (t + 2) (dvR (mlc t) (t + 2) e)) := by rw [he0]; rfl
              have hgp : 0 < Nat.gcd (t + 2) (dvR (mlc t) (t + 2) e) := Nat.gcd_pos_of_pos_left _ (by omega)
              have hgl : Nat.gcd (t + 2) (dvR (mlc t) (t + 2) e) ≤ t + 2 := Nat.gcd_le_left _ (by omega)
              have hdl9 : (t + 2) / Nat.gcd (t + 2) (dvR (mlc t) (t + 2) e) ≤ t + 2 := Nat.div_le_self _ _
              have hq0 := Int.natCast_nonneg ((t + 2) / Nat.gcd (t + 2) (dvR (mlc t) (t + 2) e))
              refine lv_aload_n X.1 X.2.1 dX11_multiple_60 rfl (lv_at hl 0 rfl) ?_
              refine lv_iload_n X.1 X.2.1 dX11_multiple_61 rfl (lv_at hl 1 rfl) ?_
              refine lv_iload_n X.1 X.2.1 dX11_multiple_62 rfl (lv_at hl 3 rfl) ?_
              refine lv_iload_n X.1 X.2.1 dX11_multiple_63 rfl (lv_at hl 3 rfl) ?_
              refine lv_lload X.1 X.2.1 dX11_multiple_64 (lv_at hl 4 rfl) ?_
              refine x_l2i X dX11_multiple_66 ?_
              refine x_ci (x_runS (k := 2) (As := [.int (iI (((t + 2 : Nat) : Int))), .int (iI (((dvR (mlc t) (t + 2) e : Nat) : Int)))]) (rest := [.int (iI (((t + 2 : Nat) : Int))), .int (iI (3)), .ref (A (i))]) X hW (c_X11_common l E A n _ g2 (t + 2) (dvR (mlc t) (t + 2) e) (by omega) (by omega)) gX11_multiple_X11_common rfl rfl rfl (by decide +kernel) ⟨by decide, by decide⟩ rfl hl.1 rfl (Nat.le_of_ble_eq_true rfl) dX11_multiple_67 ⟨Nat.zero_le _, Nat.zero_le _⟩) hW (fun r_67 g_67 H locs hp_67 hW => ?_)
              obtain ⟨hr_67, he_67⟩ := hp_67
              rw [he_67] at hW
              subst hr_67
              refine x_idiv X ⟨by omega, by omega⟩ ⟨by omega, by omega⟩ (by omega) (by omega) dX11_multiple_70 ?_
              refine x_seti ((((t + 2) / Nat.gcd (t + 2) (dvR (mlc t) (t + 2) e) : Nat) : Int)) ((Int.natCast_ediv _ _).symm) ?_
              refine x_i2l X ⟨by omega, by omega⟩ dX11_multiple_71 ?_
              refine x_cv (x_runV (k := 2) (As := [.int (iI (3)), .long (lI ((((t + 2) / Nat.gcd (t + 2) (dvR (mlc t) (t + 2) e) : Nat) : Int)))]) (rest := []) X hW (c_X11_times l E A n _ g2 i (3) q N_17 ((((t + 2) / Nat.gcd (t + 2) (dvR (mlc t) (t + 2) e) : Nat) : Int)) hi hO (by omega) hN (by omega) (by omega) (by rw [v_3, ← Int.natCast_mul, ← hms]; omega) (by rw [v_3, ← Int.natCast_mul, ← hms]; omega)) (by omega) hO rfl gX11_multiple_X11_times rfl rfl rfl (by decide +kernel) ⟨by decide, by decide⟩ rfl hl.1 rfl (Nat.le_of_ble_eq_true rfl) dX11_multiple_72 ⟨Nat.zero_le _, Nat.zero_le _⟩) hW (fun g_72 H locs hp_72 hW => ?_)
              obtain ⟨hN, hf_72⟩ := hp_72
              obtain ⟨N_72, hN_72⟩ : ∃ N9 : Nat → Int, N9 = va_up N_17 3 (N_17 3 * ((((t + 2) / Nat.gcd (t + 2) (dvR (mlc t) (t + 2) e) : Nat) : Int))) := ⟨_, rfl⟩
              rw [← hN_72] at hN
              have hO : g_72 i = .inr (11, [.ref (A (i + 1)), .ref (A (i + 2)), .ref (A (i + 3)), .ref (A (i + 4)), .int (iI (q 0)), .ref (A (i + 5)), .ref (A (i + 6)), .ref (A (i + 7)), .ref (A (i + 8)), .int (iI (q 1)), .ref (A (i + 9)), .ref (A (i + 10)), .ref (A (i + 11)), .int (iI (q 2)), .ref (A (i + 12)), .ref (A (i + 13)), .int (iI (q 3)), .ref (A (i + 14)), .ref (A (i + 15)), .ref (A (i + 16)), .int (iI (q 4))]) := by rw [hf_72 _ (by omega)]; exact hO
              have v_3 : N_72 3 = ((mlc (t + 1) : Nat) : Int) := by rw [hN_72, va_up_self, v_3, ← Int.natCast_mul, ← hms]
              have v_6 : N_72 6 = ((mlc t : Nat) : Int) := by rw [hN_72, va_up_ne _ _ (by omega)]; exact v_6
              have hoth : ∀ x, (x ≠ 3 ∧ x ≠ 6) → N_72 x = N x := fun x hx => (congrFun hN_72 x).trans ((va_up_ne _ _ (by omega)).trans (hoth x hx))
              have hfr : ∀ j, j ≠ i + 1 → g_72 j = g j := fun j hj => (hf_72 j hj).trans (hfr j hj)
              refine lv_iinc (v := iI (((t + 1 + 2 : Nat) : Int))) (lv' := [(3, .int (iI (((t + 1 + 2 : Nat) : Int)))), (0, .ref (A (i))), (1, .int (iI (3))), (2, .int (iI ((nn : Int)))), (4, .long (lI (((dvR (mlc t) (t + 2) e : Nat) : Int)))), (6, .int (iI ((e : Int) - 1)))]) X.1 X.2.1 dX11_multiple_75 hl (k := 3) rfl (by rw [show (Int32.ofInt (1)) = iI (1) from rfl, iI_add]; first | rfl | (congr 1; omega)) (by decide) rfl (fun ls hl => ?_)
              refine lv_goto (tgt := 8) X.1 X.2.1 dX11_multiple_78 (by decide) ?_
              exact ih_8 (t + 1) N_72 g_72 _ _ _ (by omega) (by omega) hN v_3 hoth hfr hW (lv_sub hl [1, 2, 3, 0] rfl)
            · obtain ⟨e2, he2⟩ : ∃ e2, e = e2 + 1 := ⟨e - 1, by omega⟩
              have hdl := dg_lt (mlc t) e2
              have hnf1 := hcp.1
              refine lv_lload X.1 X.2.1 dX11_multiple_32 (lv_at hl 4 rfl) ?_
              refine x_ldc2 X (1000000000) (by decide) lk_0 dX11_multiple_34 ?_
              refine x_lmul X dX11_multiple_37 ?_
              refine lv_aload_n X.1 X.2.1 dX11_multiple_38 rfl (lv_at hl 0 rfl) ?_
              refine x_get (C := RX11) (T := TX11) (N := 21) X hW (by omega) hO rfl lk_1 0 (by decide) lk_2 rfl dX11_multiple_39 ?_
              refine x_bipush X (by decide) dX11_multiple_42 ?_
              refine lv_iload X.1 X.2.1 dX11_multiple_44 (lv_at hl 5 rfl) ?_
              refine x_iadd X dX11_multiple_46 ?_
              refine x_lald X hW (by omega) h1 (v := lI (((dg (mlc t) e2 : Nat) : Int))) (10 * 6 + e2) (by omega) (by omega) (by decide) (((hNv 6 (by omega)).2.2 e2 (by omega)).trans (by rw [v_6, lm_nat (by omega) (by omega)])) dX11_multiple_47 ?_
              refine x_ladd X dX11_multiple_48 ?_
              refine lv_iload_n X.1 X.2.1 dX11_multiple_49 rfl (lv_at hl 3 rfl) ?_
              refine x_i2l X ⟨by omega, by omega⟩ dX11_multiple_50 ?_
              refine x_lrem X ⟨by omega, by omega⟩ ⟨by omega, by omega⟩ (by omega) (by omega) dX11_multiple_51 ?_
              refine x_setl (((dvR (mlc t) (t + 2) e2 : Nat) : Int)) (by rw [he2, ← @dv_next (mlc t) (t + 2) e2, Int.natCast_emod]; rfl) ?_
              refine lv_lstore (lv' := [(4, .long (lI (((dvR (mlc t) (t + 2) e2 : Nat) : Int)))), (0, .ref (A (i))), (1, .int (iI (3))), (2, .int (iI ((nn : Int)))), (3, .int (iI (((t + 2 : Nat) : Int)))), (6, .int (iI ((e : Int) - 1)))]) X.1 X.2.1 dX11_multiple_52 hl (by decide) rfl (fun ls hl => ?_)
              refine lv_iinc (v := iI ((e2 : Int) - 1)) (lv' := [(6, .int (iI ((e2 : Int) - 1))), (4, .long (lI (((dvR (mlc t) (t + 2) e2 : Nat) : Int)))), (0, .ref (A (i))), (1, .int (iI (3))), (2, .int (iI ((nn : Int)))), (3, .int (iI (((t + 2 : Nat) : Int))))]) X.1 X.2.1 dX11_multiple_54 hl (k := 5) rfl (by rw [show (Int32.ofInt (-1)) = iI (-1) from rfl, iI_add]; congr 1; omega) (by decide) rfl (fun ls hl => ?_)
              refine lv_goto (tgt := 27) X.1 X.2.1 dX11_multiple_57 (by decide) ?_
              exact ih_27 e2 g2 _ _ _ (by omega) (by omega) hgg hW (lv_sub hl [2, 3, 4, 5, 1, 0] rfl)
        exact loop_27 _ 10 g_17 _ _ _ (Nat.lt_succ_self _) (Nat.le_refl _) rfl hW (lv_sub hl [2, 3, 4, 5, 1, 0] rfl)
  exact loop_8 _ 0 N_3 g_3 _ _ _ (Nat.lt_succ_self _) (Nat.zero_le _) hN v_3 hoth hfr hW (lv_sub hl [1, 2, 3, 0] rfl)

set_option maxHeartbeats 4000000 in
set_option maxRecDepth 100000 in
/-- lets -/
theorem c_X11_lets (l : Launch) (E : wE) (A : Nat → Nat) (n sz : Nat) (g : Nat → va_E) (i : Nat) (q : Nat → Int) (N : Nat → Int) (B nn r : Nat) (hi : i + 16 < n) (hO : g i = mO A i q) (hN : MN E A g i N) (hB3 : N 3 = (B : Int)) (hB30 : B ≤ 10 ^ 30) (hn2 : nn ≤ 60) (hrn : r < nn) : Met l yX11_lets wsX11_lets ({ frames := 5, cells := 0, slots := 0, locals := 180 } : Room) (va_Pc [.ref (A (i)), .int (iI ((nn : Int))), .int (iI ((r : Int)))] (wPre E A n sz g)) (va_Qv (fun g' => (∃ N' : Nat → Int, MN E A g' i N' ∧ N' 2 = ((ltV B nn r : Nat) : Int) ∧ ∀ x, (x ≠ 2 ∧ x ≠ 4) → N' x = N x) ∧ ∀ j, j ≠ i + 1 → g' j = g j) (wAt E A n) (wF A n sz)) 0 0 (wF A n sz) := by
  refine x_met (cc := cX11_lets) (maxL := 4) (ret := none) [.ref (A (i)), .int (iI ((nn : Int))), .int (iI ((r : Int)))] (by decide) rfl (Nat.le_of_ble_eq_true rfl) ?_
  intro p_ e_ s_ m_ below meth c_ ls X hr hlk hnm hsz hW hl
  have hl : lv_has ls 4 [(0, .ref (A (i))), (1, .int (iI ((nn : Int)))), (2, .int (iI ((r : Int))))] := hl
  have hO : g i = .inr (11, [.ref (A (i + 1)), .ref (A (i + 2)), .ref (A (i + 3)), .ref (A (i + 4)), .int (iI (q 0)), .ref (A (i + 5)), .ref (A (i + 6)), .ref (A (i + 7)), .ref (A (i + 8)), .int (iI (q 1)), .ref (A (i + 9)), .ref (A (i + 10)), .ref (A (i + 11)), .int (iI (q 2)), .ref (A (i + 12)), .ref (A (i + 13)), .int (iI (q 3)), .ref (A (i + 14)), .ref (A (i + 15)), .ref (A (i + 16)), .int (iI (q 4))]) := hO
  have hOg := hO
  have hfr : ∀ j, j ≠ i + 1 → g j = g j := fun _ _ => rfl
  have hoth : ∀ x, (x ≠ 2 ∧ x ≠ 4) → N x = N x := fun _ _ => rfl
  have v_3 := hB3
  refine lv_aload_n X.1 X.2.1 dX11_lets_0 rfl (lv_at hl 0 rfl) ?_
  refine x_iconst X dX11_lets_1 ?_
  refine x_iconst X dX11_lets_2 ?_
  refine x_cv (x_runV (k := 2) (As := [.int (iI (2)), .int (iI (3))]) (rest := []) X hW (c_X11_copy l E A n _ g i (2) (3) q N hi hO (by omega) (by omega) (by omega) hN) (by omega) hO rfl gX11_lets_X11_copy rfl rfl rfl (by decide +kernel) ⟨by decide, by decide⟩ rfl hl.1 rfl (Nat.le_of_ble_eq_true rfl) dX11_lets_3 ⟨Nat.zero_le _, Nat.zero_le _⟩) hW (fun g_3 H locs hp_3 hW => ?_)
  obtain ⟨hN, hf_3⟩ := hp_3
  obtain ⟨N_3, hN_3⟩ : ∃ N9 : Nat → Int, N9 = va_up N 2 (N (3)) := ⟨_, rfl⟩
  rw [← hN_3] at hN
  have hO : g_3 i = .inr (11, [.ref (A (i + 1)), .ref (A (i + 2)), .ref (A (i + 3)), .ref (A (i + 4)), .int (iI (q 0)), .ref (A (i + 5)), .ref (A (i + 6)), .ref (A (i + 7)), .ref (A (i + 8)), .int (iI (q 1)), .ref (A (i + 9)), .ref (A (i + 10)), .ref (A (i + 11)), .int (iI (q 2)), .ref (A (i + 12)), .ref (A (i + 13)), .int (iI (q 3)), .ref (A (i + 14)), .ref (A (i + 15)), .ref (A (i + 16)), .int (iI (q 4))]) := by rw [hf_3 _ (by omega)]; exact hO
  have v_2 : N_3 2 = (B : Int) := by rw [hN_3, va_up_self, v_3]
  have v_3 : N_3 3 = (B : Int) := by rw [hN_3, va_up_ne _ _ (by omega)]; exact v_3
  have hoth : ∀ x, (x ≠ 2 ∧ x ≠ 4) → N_3 x = N x := fun x hx => (congrFun hN_3 x).trans ((va_up_ne _ _ (by omega)).trans (hoth x hx))
  have hfr : ∀ j, j ≠ i + 1 → g_3 j = g j := fun j hj => (hf_3 j hj).trans (hfr j hj)
  refine lv_iload_n X.1 X.2.1 dX11_lets_6 rfl (lv_at hl 2 rfl) ?_
  refine x_if_ne (tgt := 11) X ⟨by omega, by omega⟩ dX11_lets_7 (by decide) (fun b_7 => ?_) (fun b_7 => ?_)
  · refine lv_aload_n X.1 X.2.1 dX11_lets_11 rfl (lv_at hl 0 rfl) ?_
    refine x_iconst X dX11_lets_12 ?_
    refine x_lconst X 0 (by decide) dX11_lets_13 ?_
    refine x_cv (x_runV (k := 2) (As := [.int (iI (2)), .long (lI (0))]) (rest := []) X hW (c_X11_set l E A n _ g_3 i (2) q N_3 (0) hi hO (by omega) hN (by decide) (by decide)) (by omega) hO rfl gX11_lets_X11_set rfl rfl rfl (by decide +kernel) ⟨by decide, by decide⟩ rfl hl.1 rfl (Nat.le_of_ble_eq_true rfl) dX11_lets_14 ⟨Nat.zero_le _, Nat.zero_le _⟩) hW (fun g_14 H locs hp_14 hW => ?_)
    obtain ⟨hN, hf_14⟩ := hp_14
    obtain ⟨N_14, hN_14⟩ : ∃ N9 : Nat → Int, N9 = va_up N_3 2 (0) := ⟨_, rfl⟩
    rw [← hN_14] at hN
    have hO : g_14 i = .inr (11, [.ref (A (i + 1)), .ref (A (i + 2)), .ref (A (i + 3)), .ref (A (i + 4)), .int (iI (q 0)), .ref (A (i + 5)), .ref (A (i + 6)), .ref (A (i + 7)), .ref (A (i + 8)), .int (iI (q 1)), .ref (A (i + 9)), .ref (A (i + 10)), .ref (A (i + 11)), .int (iI (q 2)), .ref (A (i + 12)), .ref (A (i + 13)), .int (iI (q 3)), .ref (A (i + 14)), .ref (A (i + 15)), .ref (A (i + 16)), .int (iI (q 4))]) := by rw [hf_14 _ (by omega)]; exact hO
    have v_2 : N_14 2 = 0 := by rw [hN_14, va_up_self]
    have v_3 : N_14 3 = (B : Int) := by rw [hN_14, va_up_ne _ _ (by omega)]; exact v_3
    have hoth : ∀ x, (x ≠ 2 ∧ x ≠ 4) → N_14 x = N x := fun x hx => (congrFun hN_14 x).trans ((va_up_ne _ _ (by omega)).trans (hoth x hx))
    have hfr : ∀ j, j ≠ i + 1 → g_14 j = g j := fun j hj => (hf_14 j hj).trans (hfr j hj)
    refine lv_iload_n X.1 X.2.1 dX11_lets_17 rfl (lv_at hl 2 rfl) ?_
    refine x_iconst X dX11_lets_18 ?_
    refine x_iadd X dX11_lets_19 ?_
    refine x_seti (((r + 1 + 0 : Nat) : Int)) (by omega) ?_
    refine lv_istore_n (lv' := [(3, .int (iI (((r + 1 + 0 : Nat) : Int)))), (0, .ref (A (i))), (1, .int (iI ((nn : Int)))), (2, .int (iI ((r : Int))))]) X.1 X.2.1 dX11_lets_20 rfl hl (by decide) rfl (fun ls hl => ?_)
    have loop_21 : ∀ (fuel : Nat) (u : Nat) (N1 : Nat → Int) (g1 : Nat → va_E) (H : Heap) (locs : List Loc) (ls : Array Slot), (nn - r - u) < fuel → (u ≤ nn - r) → (MN E A g1 i N1) → (N1 2 = ((ltS B r u : Nat) : Int)) → (N1 3 = (B : Int)) → (∀ x, (x ≠ 2 ∧ x ≠ 4) → N1 x = N x) → (∀ j, j ≠ i + 1 → g1 j = g j) → wH E (wF A n sz) A n s_ g1 H locs → lv_has ls 4 [(0, .ref (A (i))), (1, .int (iI ((nn : Int)))), (2, .int (iI ((r : Int)))), (3, .int (iI (((r + 1 + u : Nat) : Int))))] → W p_ l e_ ({ frames := 5, cells := 0, slots := 0, locals := 180 } : Room) s_ m_ [.ref (A (i)), .int (iI ((nn : Int))), .int (iI ((r : Int)))].toArray below meth c_ H locs 0 0 (MQ below (va_Qv (fun g' => (∃ N' : Nat → Int, MN E A g' i N' ∧ N' 2 = ((ltV B nn r : Nat) : Int) ∧ ∀ x, (x ≠ 2 ∧ x ≠ 4) → N' x = N x) ∧ ∀ j, j ≠ i + 1 → g' j = g j) (wAt E A n) (wF A n sz)) [.ref (A (i)), .int (iI ((nn : Int))), .int (iI ((r : Int)))].toArray s_ 0 0 (wF A n sz)) (F0 m_ 21 ls []) := by
      intro fuel
      induction fuel with
      | zero => intro u N1 g1 H locs ls hm; exact absurd hm (Nat.not_lt_zero _)
      | succ fuel ih_21 =>
        intro u N1 g1 H locs ls hm hu hN v_2 v_3 hoth hfr hW hl
        have hO : g1 i = .inr (11, [.ref (A (i + 1)), .ref (A (i + 2)), .ref (A (i + 3)), .ref (A (i + 4)), .int (iI (q 0)), .ref (A (i + 5)), .ref (A (i + 6)), .ref (A (i + 7)), .ref (A (i + 8)), .int (iI (q 1)), .ref (A (i + 9)), .ref (A (i + 10)), .ref (A (i + 11)), .int (iI (q 2)), .ref (A (i + 12)), .ref (A (i + 13)), .int (iI (q 3)), .ref (A (i + 14)), .ref (A (i + 15)), .ref (A (i + 16)), .int (iI (q 4))]) := (hfr _ (by omega)).trans hOg
        refine lv_iload_n X.1 X.2.1 dX11_lets_21 rfl (lv_at hl 3 rfl) ?_
        refine lv_iload_n X.1 X.2.1 dX11_lets_22 rfl (lv_at hl 1 rfl) ?_
        refine x_icmp_gt (tgt := 54) X ⟨by omega, by omega⟩ ⟨by omega, by omega⟩ dX11_lets_23 (by decide) (fun b_23 => ?_) (fun b_23 => ?_)
        · rw [show u = nn - r from by omega] at v_2
          have hle := ltS_le B r (nn - r)
          have hle2 : (nn - r) * B ≤ 60 * B := Nat.mul_le_mul_right _ (by omega)
          have hle3 : ltS B r (nn - r) * r ≤ (60 * B) * 60 := Nat.mul_le_mul (by omega) (by omega)
          refine lv_aload_n X.1 X.2.1 dX11_lets_54 rfl (lv_at hl 0 rfl) ?_
          refine x_iconst X dX11_lets_55 ?_
          refine lv_iload_n X.1 X.2.1 dX11_lets_56 rfl (lv_at hl 2 rfl) ?_
          refine x_i2l X ⟨by omega, by omega⟩ dX11_lets_57 ?_
          refine x_cv (x_runV (k := 2) (As := [.int (iI (2)), .long (lI ((r : Int)))]) (rest := []) X hW (c_X11_times l E A n _ g1 i (2) q N1 ((r : Int)) hi hO (by omega) hN (by omega) (by omega) (by rw [v_2, ← Int.natCast_mul]; omega) (by rw [v_2, ← Int.natCast_mul]; omega)) (by omega) hO rfl gX11_lets_X11_times rfl rfl rfl (by decide +kernel) ⟨by decide, by decide⟩ rfl hl.1 rfl (Nat.le_of_ble_eq_true rfl) dX11_lets_58 ⟨Nat.zero_le _, Nat.zero_le _⟩) hW (fun g_58 H locs hp_58 hW => ?_)
          obtain ⟨hN, hf_58⟩ := hp_58
          obtain ⟨N_58, hN_58⟩ : ∃ N9 : Nat → Int, N9 = va_up N1 2 (N1 2 * ((r : Int))) := ⟨_, rfl⟩
          rw [← hN_58] at hN
          have hO : g_58 i = .inr (11, [.ref (A (i + 1)), .ref (A (i + 2)), .ref (A (i + 3)), .ref (A (i + 4)), .int (iI (q 0)), .ref (A (i + 5)), .ref (A (i + 6)), .ref (A (i + 7)), .ref (A (i + 8)), .int (iI (q 1)), .ref (A (i + 9)), .ref (A (i + 10)), .ref (A (i + 11)), .int (iI (q 2)), .ref (A (i + 12)), .ref (A (i + 13)), .int (iI (q 3)), .ref (A (i + 14)), .ref (A (i + 15)), .ref (A (i + 16)), .int (iI (q 4))]) := by rw [hf_58 _ (by omega)]; exact hO
          have v_2 : N_58 2 = ((ltS B r (nn - r) * r : Nat) : Int) := by rw [hN_58, va_up_self, v_2, ← Int.natCast_mul]
          have v_3 : N_58 3 = (B : Int) := by rw [hN_58, va_up_ne _ _ (by omega)]; exact v_3
          have hoth : ∀ x, (x ≠ 2 ∧ x ≠ 4) → N_58 x = N x := fun x hx => (congrFun hN_58 x).trans ((va_up_ne _ _ (by omega)).trans (hoth x hx))
          have hfr : ∀ j, j ≠ i + 1 → g_58 j = g j := fun j hj => (hf_58 j hj).trans (hfr j hj)
          exact x_vret X hr hlk hW (⟨⟨_, hN, by rw [v_2]; unfold ltV; rw [if_neg (by omega)], hoth⟩, hfr⟩) dX11_lets_61
        · have hls : ltS B r (u + 1) = ltS B r u + B / (r + u) := rfl
          have hle := ltS_le B r (u + 1)
          have hle2 : (u + 1) * B ≤ 60 * B := Nat.mul_le_mul_right _ (by omega)
          refine lv_aload_n X.1 X.2.1 dX11_lets_26 rfl (lv_at hl 0 rfl) ?_
          refine x_iconst X dX11_lets_27 ?_
          refine x_iconst X dX11_lets_28 ?_
          refine x_cv (x_runV (k := 2) (As := [.int (iI (4)), .int (iI (3))]) (rest := []) X hW (c_X11_copy l E A n _ g1 i (4) (3) q N1 hi hO (by omega) (by omega) (by omega) hN) (by omega) hO rfl gX11_lets_X11_copy rfl rfl rfl (by decide +kernel) ⟨by decide, by decide⟩ rfl hl.1 rfl (Nat.le_of_ble_eq_true rfl) dX11_lets_29 ⟨Nat.zero_le _, Nat.zero_le _⟩) hW (fun g_29 H locs hp_29 hW => ?_)
          obtain ⟨hN, hf_29⟩ := hp_29
          obtain ⟨N_29, hN_29⟩ : ∃ N9 : Nat → Int, N9 = va_up N1 4 (N1 (3)) := ⟨_, rfl⟩
          rw [← hN_29] at hN
          have hO : g_29 i = .inr (11, [.ref (A (i + 1)), .ref (A (i + 2)), .ref (A (i + 3)), .ref (A (i + 4)), .int (iI (q 0)), .ref (A (i + 5)), .ref (A (i + 6)), .ref (A (i + 7)), .ref (A (i + 8)), .int (iI (q 1)), .ref (A (i + 9)), .ref (A (i + 10)), .ref (A (i + 11)), .int (iI (q 2)), .ref (A (i + 12)), .ref (A (i + 13)), .int (iI (q 3)), .ref (A (i + 14)), .ref (A (i + 15)), .ref (A (i + 16)), .int (iI (q 4))]) := by rw [hf_29 _ (by omega)]; exact hO
          have v_4 : N_29 4 = (B : Int) := by rw [hN_29, va_up_self, v_3]
          have v_2 : N_29 2 = ((ltS B r u : Nat) : Int) := by rw [hN_29, va_up_ne _ _ (by omega)]; exact v_2
          have v_3 : N_29 3 = (B : Int) := by rw [hN_29, va_up_ne _ _ (by omega)]; exact v_3
          have hoth : ∀ x, (x ≠ 2 ∧ x ≠ 4) → N_29 x = N x := fun x hx => (congrFun hN_29 x).trans ((va_up_ne _ _ (by omega)).trans (hoth x hx))
          have hfr : ∀ j, j ≠ i + 1 → g_29 j = g j := fun j hj => (hf_29 j hj).trans (hfr j hj)
          refine lv_aload_n X.1 X.2.1 dX11_lets_32 rfl (lv_at hl 0 rfl) ?_
          refine x_iconst X dX11_lets_33 ?_
          refine lv_iload_n X.1 X.2.1 dX11_lets_34 rfl (lv_at hl 3 rfl) ?_
          refine x_iconst X dX11_lets_35 ?_
          refine x_isub X dX11_lets_36 ?_
          refine x_seti (((r + u : Nat) : Int)) (by omega) ?_
          refine x_i2l X ⟨by omega, by omega⟩ dX11_lets_37 ?_
          refine x_cv (x_runV (k := 2) (As := [.int (iI (4)), .long (lI (((r + u : Nat) : Int)))]) (rest := []) X hW (c_X11_over l E A n _ g_29 i (4) q N_29 (B) (r + u) hi hO (by omega) hN v_4 (by omega) (by omega)) (by omega) hO rfl gX11_lets_X11_over rfl rfl rfl (by decide +kernel) ⟨by decide, by decide⟩ rfl hl.1 rfl (Nat.le_of_ble_eq_true rfl) dX11_lets_38 ⟨Nat.zero_le _, Nat.zero_le _⟩) hW (fun g_38 H locs hp_38 hW => ?_)
          obtain ⟨hN, hf_38⟩ := hp_38
          obtain ⟨N_38, hN_38⟩ : ∃ N9 : Nat → Int, N9 = va_up N_29 4 (((B / (r + u) : Nat) : Int)) := ⟨_, rfl⟩
          rw [← hN_38] at hN
          have hO : g_38 i = .inr (11, [.ref (A (i + 1)), .ref (A (i + 2)), .ref (A (i + 3)), .ref (A (i + 4)), .int (iI (q 0)), .ref (A (i + 5)), .ref (A (i + 6)), .ref (A (i + 7)), .ref (A (i + 8)), .int (iI (q 1)), .ref (A (i + 9)), .ref (A (i + 10)), .ref (A (i + 11)), .int (iI (q 2)), .ref (A (i + 12)), .ref (A (i + 13)), .int (iI (q 3)), .ref (A (i + 14)), .ref (A (i + 15)), .ref (A (i + 16)), .int (iI (q 4))]) := by rw [hf_38 _ (by omega)]; exact hO
          have v_4 : N_38 4 = ((B / (r + u) : Nat) : Int) := by rw [hN_38, va_up_self]
          have v_2 : N_38 2 = ((ltS B r u : Nat) : Int) := by rw [hN_38, va_up_ne _ _ (by omega)]; exact v_2
          have v_3 : N_38 3 = (B : Int) := by rw [hN_38, va_up_ne _ _ (by omega)]; exact v_3
          have hoth : ∀ x, (x ≠ 2 ∧ x ≠ 4) → N_38 x = N x := fun x hx => (congrFun hN_38 x).trans ((va_up_ne _ _ (by omega)).trans (hoth x hx))
          have hfr : ∀ j, j ≠ i + 1 → g_38 j = g j := fun j hj => (hf_38 j hj).trans (hfr j hj)
          refine lv_aload_n X.1 X.2.1 dX11_lets_41 rfl (lv_at hl 0 rfl) ?_
          refine x_iconst X dX11_lets_42 ?_
          refine x_iconst X dX11_lets_43 ?_
          refine x_lconst X 1 (by decide) dX11_lets_44 ?_
          refine x_cv (x_runV (k := 3) (As := [.int (iI (2)), .int (iI (4)), .long (lI (1))]) (rest := []) X hW (c_X11_more l E A n _ g_38 i (2) (4) q N_38 (1) hi hO (by omega) (by omega) (by omega) hN (by decide) (by decide) (by rw [v_2, v_4, Int.mul_one, ← Int.natCast_add, ← hls]; omega) (by rw [v_2, v_4, Int.mul_one, ← Int.natCast_add, ← hls]; omega)) (by omega) hO rfl gX11_lets_X11_more rfl rfl rfl (by decide +kernel) ⟨by decide, by decide⟩ rfl hl.1 rfl (Nat.le_of_ble_eq_true rfl) dX11_lets_45 ⟨Nat.zero_le _, Nat.zero_le _⟩) hW (fun g_45 H locs hp_45 hW => ?_)
          obtain ⟨hN, hf_45⟩ := hp_45
          obtain ⟨N_45, hN_45⟩ : ∃ N9 : Nat → Int, N9 = va_up N_38 2 (N_38 2 + N_38 4 * 1) := ⟨_, rfl⟩
          rw [← hN_45] at hN
          have hO : g_45 i = .inr (11, [.ref (A (i + 1)), .ref (A (i + 2)), .ref (A (i + 3)), .ref (A (i + 4)), .int (iI (q 0)), .ref (A (i + 5)), .ref (A (i + 6)), .ref (A (i + 7)), .ref (A (i + 8)), .int (iI (q 1)), .ref (A (i + 9)), .ref (A (i + 10)), .ref (A (i + 11)), .int (iI (q 2)), .ref (A (i + 12)), .ref (A (i + 13)), .int (iI (q 3)), .ref (A (i + 14)), .ref (A (i + 15)), .ref (A (i + 16)), .int (iI (q 4))]) := by rw [hf_45 _ (by omega)]; exact hO
          have v_2 : N_45 2 = ((ltS B r (u + 1) : Nat) : Int) := by rw [hN_45, va_up_self, v_2, v_4, Int.mul_one, ← Int.natCast_add, ← hls]
          have v_3 : N_45 3 = (B : Int) := by rw [hN_45, va_up_ne _ _ (by omega)]; exact v_3
          have v_4 : N_45 4 = ((B / (r + u) : Nat) : Int) := by rw [hN_45, va_up_ne _ _ (by omega)]; exact v_4
          have hoth : ∀ x, (x ≠ 2 ∧ x ≠ 4) → N_45 x = N x := fun x hx => (congrFun hN_45 x).trans ((va_up_ne _ _ (by omega)).trans (hoth x hx))
          have hfr : ∀ j, j ≠ i + 1 → g_45 j = g j := fun j hj => (hf_45 j hj).trans (hfr j hj)
          refine lv_iinc (v := iI (((r + 1 + (u + 1) : Nat) : Int))) (lv' := [(3, .int (iI (((r + 1 + (u + 1) : Nat) : Int)))), (0, .ref (A (i))), (1, .int (iI ((nn : Int)))), (2, .int (iI ((r : Int))))]) X.1 X.2.1 dX11_lets_48 hl (k := 3) rfl (by rw [show (Int32.ofInt (1)) = iI (1) from rfl, iI_add]; first | rfl | (congr 1; omega)) (by decide) rfl (fun ls hl => ?_)
          refine lv_goto (tgt := 21) X.1 X.2.1 dX11_lets_51 (by decide) ?_
          exact ih_21 (u + 1) N_45 g_45 _ _ _ (by omega) (by omega) hN v_2 v_3 hoth hfr hW (lv_sub hl [1, 2, 3, 0] rfl)
    exact loop_21 _ 0 N_14 g_14 _ _ _ (Nat.lt_succ_self _) (Nat.zero_le _) hN v_2 v_3 hoth hfr hW (lv_sub hl [1, 2, 3, 0] rfl)
  · exact x_vret X hr hlk hW (⟨⟨_, hN, by rw [v_2]; unfold ltV; rw [if_pos (by omega)], hoth⟩, hfr⟩) dX11_lets_10

set_option maxHeartbeats 4000000 in
set_option maxRecDepth 100000 in
/-- letting -/
theorem c_X11_letting (l : Launch) (E : wE) (A : Nat → Nat) (n sz : Nat) (g : Nat → va_E) (i : Nat) (q : Nat → Int) (N : Nat → Int) (z y : Int) (hi : i + 16 < n) (hO : g i = mO A i q) (hN : MN E A g i N) (hz : I32 z) (hy : I32 y) : Met l yX11_letting wsX11_letting ({ frames := 62, cells := 0, slots := 0, locals := 2000 } : Room) (va_Pc [.ref (A (i)), .int (iI (z)), .int (iI (y))] (wPre E A n sz g)) (va_Qi (fun r g' => r = iI (if (1 ≤ z ∧ z ≤ 60) ∧ 0 ≤ y ∧ y < z then 1 else 0) ∧ ((1 ≤ z ∧ z ≤ 60) ∧ 0 ≤ y ∧ y < z → MR E A g' i (rdT ((ltV (mlc (z.toNat - 2)) z.toNat y.toNat : Nat) : Int) (mlc (z.toNat - 2) * z.toNat)) (rdB ((ltV (mlc (z.toNat - 2)) z.toNat y.toNat : Nat) : Int) (mlc (z.toNat - 2) * z.toNat))) ∧ (¬ ((1 ≤ z ∧ z ≤ 60) ∧ 0 ≤ y ∧ y < z) → g' = g) ∧ ∀ j, j ≠ i + 1 → g' j = g j) (wAt E A n) (wF A n sz)) 0 0 (wF A n sz) := by
  refine x_met (cc := cX11_letting) (maxL := 3) (ret := (some .boolean)) [.ref (A (i)), .int (iI (z)), .int (iI (y))] (by decide) rfl (Nat.le_of_ble_eq_true rfl) ?_
  intro p_ e_ s_ m_ below meth c_ ls X hr hlk hnm hsz hW hl
  have hl : lv_has ls 3 [(0, .ref (A (i))), (1, .int (iI (z))), (2, .int (iI (y)))] := hl
  have hO : g i = .inr (11, [.ref (A (i + 1)), .ref (A (i + 2)), .ref (A (i + 3)), .ref (A (i + 4)), .int (iI (q 0)), .ref (A (i + 5)), .ref (A (i + 6)), .ref (A (i + 7)), .ref (A (i + 8)), .int (iI (q 1)), .ref (A (i + 9)), .ref (A (i + 10)), .ref (A (i + 11)), .int (iI (q 2)), .ref (A (i + 12)), .ref (A (i + 13)), .int (iI (q 3)), .ref (A (i + 14)), .ref (A (i + 15)), .ref (A (i + 16)), .int (iI (q 4))]) := hO
  have hOg := hO
  have hfr : ∀ j, j ≠ i + 1 → g j = g j := fun _ _ => rfl
  have hz1 := hz.1
  have hz2 := hz.2
  have hy1 := hy.1
  have hy2 := hy.2
  refine lv_iload_n X.1 X.2.1 dX11_letting_0 rfl (lv_at hl 1 rfl) ?_
  refine x_iconst X dX11_letting_1 ?_
  refine x_icmp_lt (tgt := 20) X hz ⟨by decide, by decide⟩ dX11_letting_2 (by decide) (fun b_2 => ?_) (fun b_2 => ?_)
  · refine x_iconst X dX11_letting_20 ?_
    exact x_zret X hr hlk (by decide) hW (⟨by rw [if_neg (by omega)], fun h => absurd h (by omega), fun _ => rfl, fun _ _ => rfl⟩) dX11_letting_21
  · refine lv_iload_n X.1 X.2.1 dX11_letting_5 rfl (lv_at hl 1 rfl) ?_
    refine x_bipush X (by decide) dX11_letting_6 ?_
    refine x_icmp_gt (tgt := 20) X hz ⟨by decide, by decide⟩ dX11_letting_8 (by decide) (fun b_8 => ?_) (fun b_8 => ?_)
    · refine x_iconst X dX11_letting_20 ?_
      exact x_zret X hr hlk (by decide) hW (⟨by rw [if_neg (by omega)], fun h => absurd h (by omega), fun _ => rfl, fun _ _ => rfl⟩) dX11_letting_21
    · refine lv_iload_n X.1 X.2.1 dX11_letting_11 rfl (lv_at hl 2 rfl) ?_
      refine x_if_lt (tgt := 20) X hy dX11_letting_12 (by decide) (fun b_12 => ?_) (fun b_12 => ?_)
      · refine x_iconst X dX11_letting_20 ?_
        exact x_zret X hr hlk (by decide) hW (⟨by rw [if_neg (by omega)], fun h => absurd h (by omega), fun _ => rfl, fun _ _ => rfl⟩) dX11_letting_21
      · refine lv_iload_n X.1 X.2.1 dX11_letting_15 rfl (lv_at hl 2 rfl) ?_
        refine lv_iload_n X.1 X.2.1 dX11_letting_16 rfl (lv_at hl 1 rfl) ?_
        refine x_icmp_lt (tgt := 22) X hy hz dX11_letting_17 (by decide) (fun b_17 => ?_) (fun b_17 => ?_)
        · obtain ⟨nn, hnn⟩ : ∃ nn, nn = z.toNat := ⟨_, rfl⟩
          obtain ⟨r, hr9⟩ : ∃ r, r = y.toNat := ⟨_, rfl⟩
          have hzn : z = (nn : Int) := by omega
          have hyr : y = (r : Int) := by omega
          have hcp := mlc_cap (t := nn - 2) (by omega)
          have hlv := ltV_le (B := mlc (nn - 2)) (nn := nn) (r := r) (by omega) (by omega)
          have hbn : mlc (nn - 2) * nn ≤ 10 ^ 30 * 60 := Nat.mul_le_mul hcp.1 (by omega)
          have hbp : 0 < mlc (nn - 2) * nn := Nat.mul_pos hcp.2 (by omega)
          refine lv_aload_n X.1 X.2.1 dX11_letting_22 rfl (lv_at hl 0 rfl) ?_
          refine x_iconst X dX11_letting_23 ?_
          refine lv_iload_n X.1 X.2.1 dX11_letting_24 rfl (lv_at hl 1 rfl) ?_
          refine x_seti ((nn : Int)) hzn ?_
          refine x_cv (x_runV (k := 2) (As := [.int (iI (3)), .int (iI ((nn : Int)))]) (rest := []) X hW (c_X11_multiple l E A n _ g i q N nn hi hO hN (by omega) (by omega)) (by omega) hO rfl gX11_letting_X11_multiple rfl rfl rfl (by decide +kernel) ⟨by decide, by decide⟩ rfl hl.1 rfl (Nat.le_of_ble_eq_true rfl) dX11_letting_25 ⟨Nat.zero_le _, Nat.zero_le _⟩) hW (fun g_25 H locs hp_25 hW => ?_)
          obtain ⟨⟨N_25, hN, v_3, ho_25⟩, hf_25⟩ := hp_25
          have hfr : ∀ j, j ≠ i + 1 → g_25 j = g j := fun j hj => (hf_25 j hj).trans (hfr j hj)
          have hO : g_25 i = .inr (11, [.ref (A (i + 1)), .ref (A (i + 2)), .ref (A (i + 3)), .ref (A (i + 4)), .int (iI (q 0)), .ref (A (i + 5)), .ref (A (i + 6)), .ref (A (i + 7)), .ref (A (i + 8)), .int (iI (q 1)), .ref (A (i + 9)), .ref (A (i + 10)), .ref (A (i + 11)), .int (iI (q 2)), .ref (A (i + 12)), .ref (A (i + 13)), .int (iI (q 3)), .ref (A (i + 14)), .ref (A (i + 15)), .ref (A (i + 16)), .int (iI (q 4))]) := by rw [hf_25 _ (by omega)]; exact hO
          refine lv_aload_n X.1 X.2.1 dX11_letting_28 rfl (lv_at hl 0 rfl) ?_
          refine lv_iload_n X.1 X.2.1 dX11_letting_29 rfl (lv_at hl 1 rfl) ?_
          refine x_seti ((nn : Int)) hzn ?_
          refine lv_iload_n X.1 X.2.1 dX11_letting_30 rfl (lv_at hl 2 rfl) ?_
          refine x_seti ((r : Int)) hyr ?_
          refine x_cv (x_runV (k := 2) (As := [.int (iI ((nn : Int))), .int (iI ((r : Int)))]) (rest := []) X hW (c_X11_lets l E A n _ g_25 i q N_25 (mlc (nn - 2)) nn (r) hi hO hN v_3 hcp.1 (by omega) (by omega)) (by omega) hO rfl gX11_letting_X11_lets rfl rfl rfl (by decide +kernel) ⟨by decide, by decide⟩ rfl hl.1 rfl (Nat.le_of_ble_eq_true rfl) dX11_letting_31 ⟨Nat.zero_le _, Nat.zero_le _⟩) hW (fun g_31 H locs hp_31 hW => ?_)
          obtain ⟨⟨N_31, hN, v_2, ho_31⟩, hf_31⟩ := hp_31
          have hfr : ∀ j, j ≠ i + 1 → g_31 j = g j := fun j hj => (hf_31 j hj).trans (hfr j hj)
          have hO : g_31 i = .inr (11, [.ref (A (i + 1)), .ref (A (i + 2)), .ref (A (i + 3)), .ref (A (i + 4)), .int (iI (q 0)), .ref (A (i + 5)), .ref (A (i + 6)), .ref (A (i + 7)), .ref (A (i + 8)), .int (iI (q 1)), .ref (A (i + 9)), .ref (A (i + 10)), .ref (A (i + 11)), .int (iI (q 2)), .ref (A (i + 12)), .ref (A (i + 13)), .int (iI (q 3)), .ref (A (i + 14)), .ref (A (i + 15)), .ref (A (i + 16)), .int (iI (q 4))]) := by rw [hf_31 _ (by omega)]; exact hO
          have v_3 := (ho_31 (3) (by omega)).trans v_3
          refine lv_aload_n X.1 X.2.1 dX11_letting_34 rfl (lv_at hl 0 rfl) ?_
          refine x_bipush X (by decide) dX11_letting_35 ?_
          refine x_iconst X dX11_letting_37 ?_
          refine x_cv (x_runV (k := 2) (As := [.int (iI (10)), .int (iI (2))]) (rest := []) X hW (c_X11_copy l E A n _ g_31 i (10) (2) q N_31 hi hO (by omega) (by omega) (by omega) hN) (by omega) hO rfl gX11_letting_X11_copy rfl rfl rfl (by decide +kernel) ⟨by decide, by decide⟩ rfl hl.1 rfl (Nat.le_of_ble_eq_true rfl) dX11_letting_38 ⟨Nat.zero_le _, Nat.zero_le _⟩) hW (fun g_38 H locs hp_38 hW => ?_)
          obtain ⟨hN, hf_38⟩ := hp_38
          obtain ⟨N_38, hN_38⟩ : ∃ N9 : Nat → Int, N9 = va_up N_31 10 (N_31 (2)) := ⟨_, rfl⟩
          rw [← hN_38] at hN
          have hO : g_38 i = .inr (11, [.ref (A (i + 1)), .ref (A (i + 2)), .ref (A (i + 3)), .ref (A (i + 4)), .int (iI (q 0)), .ref (A (i + 5)), .ref (A (i + 6)), .ref (A (i + 7)), .ref (A (i + 8)), .int (iI (q 1)), .ref (A (i + 9)), .ref (A (i + 10)), .ref (A (i + 11)), .int (iI (q 2)), .ref (A (i + 12)), .ref (A (i + 13)), .int (iI (q 3)), .ref (A (i + 14)), .ref (A (i + 15)), .ref (A (i + 16)), .int (iI (q 4))]) := by rw [hf_38 _ (by omega)]; exact hO
          have v_10 : N_38 10 = ((ltV (mlc (nn - 2)) nn (r) : Nat) : Int) := by rw [hN_38, va_up_self, v_2]
          have v_2 : N_38 2 = ((ltV (mlc (nn - 2)) nn (r) : Nat) : Int) := by rw [hN_38, va_up_ne _ _ (by omega)]; exact v_2
          have v_3 : N_38 3 = ((mlc (nn - 2) : Nat) : Int) := by rw [hN_38, va_up_ne _ _ (by omega)]; exact v_3
          have hfr : ∀ j, j ≠ i + 1 → g_38 j = g j := fun j hj => (hf_38 j hj).trans (hfr j hj)
          refine lv_aload_n X.1 X.2.1 dX11_letting_41 rfl (lv_at hl 0 rfl) ?_
          refine x_bipush X (by decide) dX11_letting_42 ?_
          refine x_iconst X dX11_letting_44 ?_
          refine x_cv (x_runV (k := 2) (As := [.int (iI (11)), .int (iI (3))]) (rest := []) X hW (c_X11_copy l E A n _ g_38 i (11) (3) q N_38 hi hO (by omega) (by omega) (by omega) hN) (by omega) hO rfl gX11_letting_X11_copy rfl rfl rfl (by decide +kernel) ⟨by decide, by decide⟩ rfl hl.1 rfl (Nat.le_of_ble_eq_true rfl) dX11_letting_45 ⟨Nat.zero_le _, Nat.zero_le _⟩) hW (fun g_45 H locs hp_45 hW => ?_)
          obtain ⟨hN, hf_45⟩ := hp_45
          obtain ⟨N_45, hN_45⟩ : ∃ N9 : Nat → Int, N9 = va_up N_38 11 (N_38 (3)) := ⟨_, rfl⟩
          rw [← hN_45] at hN
          have hO : g_45 i = .inr (11, [.ref (A (i + 1)), .ref (A (i + 2)), .ref (A (i + 3)), .ref (A (i + 4)), .int (iI (q 0)), .ref (A (i + 5)), .ref (A (i + 6)), .ref (A (i + 7)), .ref (A (i + 8)), .int (iI (q 1)), .ref (A (i + 9)), .ref (A (i + 10)), .ref (A (i + 11)), .int (iI (q 2)), .ref (A (i + 12)), .ref (A (i + 13)), .int (iI (q 3)), .ref (A (i + 14)), .ref (A (i + 15)), .ref (A (i + 16)), .int (iI (q 4))]) := by rw [hf_45 _ (by omega)]; exact hO
          have v_11 : N_45 11 = ((mlc (nn - 2) : Nat) : Int) := by rw [hN_45, va_up_self, v_3]
          have v_2 : N_45 2 = ((ltV (mlc (nn - 2)) nn (r) : Nat) : Int) := by rw [hN_45, va_up_ne _ _ (by omega)]; exact v_2
          have v_3 : N_45 3 = ((mlc (nn - 2) : Nat) : Int) := by rw [hN_45, va_up_ne _ _ (by omega)]; exact v_3
          have v_10 : N_45 10 = ((ltV (mlc (nn - 2)) nn (r) : Nat) : Int) := by rw [hN_45, va_up_ne _ _ (by omega)]; exact v_10
          have hfr : ∀ j, j ≠ i + 1 → g_45 j = g j := fun j hj => (hf_45 j hj).trans (hfr j hj)
          refine lv_aload_n X.1 X.2.1 dX11_letting_48 rfl (lv_at hl 0 rfl) ?_
          refine x_bipush X (by decide) dX11_letting_49 ?_
          refine lv_iload_n X.1 X.2.1 dX11_letting_51 rfl (lv_at hl 1 rfl) ?_
          refine x_i2l X hz dX11_letting_52 ?_
          refine x_setl ((nn : Int)) hzn ?_
          refine x_cv (x_runV (k := 2) (As := [.int (iI (11)), .long (lI ((nn : Int)))]) (rest := []) X hW (c_X11_times l E A n _ g_45 i (11) q N_45 ((nn : Int)) hi hO (by omega) hN (by omega) (by omega) (by rw [v_11, ← Int.natCast_mul]; omega) (by rw [v_11, ← Int.natCast_mul]; omega)) (by omega) hO rfl gX11_letting_X11_times rfl rfl rfl (by decide +kernel) ⟨by decide, by decide⟩ rfl hl.1 rfl (Nat.le_of_ble_eq_true rfl) dX11_letting_53 ⟨Nat.zero_le _, Nat.zero_le _⟩) hW (fun g_53 H locs hp_53 hW => ?_)
          obtain ⟨hN, hf_53⟩ := hp_53
          obtain ⟨N_53, hN_53⟩ : ∃ N9 : Nat → Int, N9 = va_up N_45 11 (N_45 11 * ((nn : Int))) := ⟨_, rfl⟩
          rw [← hN_53] at hN
          have hO : g_53 i = .inr (11, [.ref (A (i + 1)), .ref (A (i + 2)), .ref (A (i + 3)), .ref (A (i + 4)), .int (iI (q 0)), .ref (A (i + 5)), .ref (A (i + 6)), .ref (A (i + 7)), .ref (A (i + 8)), .int (iI (q 1)), .ref (A (i + 9)), .ref (A (i + 10)), .ref (A (i + 11)), .int (iI (q 2)), .ref (A (i + 12)), .ref (A (i + 13)), .int (iI (q 3)), .ref (A (i + 14)), .ref (A (i + 15)), .ref (A (i + 16)), .int (iI (q 4))]) := by rw [hf_53 _ (by omega)]; exact hO
          have v_11 : N_53 11 = ((mlc (nn - 2) * nn : Nat) : Int) := by rw [hN_53, va_up_self, v_11, ← Int.natCast_mul]
          have v_2 : N_53 2 = ((ltV (mlc (nn - 2)) nn (r) : Nat) : Int) := by rw [hN_53, va_up_ne _ _ (by omega)]; exact v_2
          have v_3 : N_53 3 = ((mlc (nn - 2) : Nat) : Int) := by rw [hN_53, va_up_ne _ _ (by omega)]; exact v_3
          have v_10 : N_53 10 = ((ltV (mlc (nn - 2)) nn (r) : Nat) : Int) := by rw [hN_53, va_up_ne _ _ (by omega)]; exact v_10
          have hfr : ∀ j, j ≠ i + 1 → g_53 j = g j := fun j hj => (hf_53 j hj).trans (hfr j hj)
          refine lv_aload_n X.1 X.2.1 dX11_letting_56 rfl (lv_at hl 0 rfl) ?_
          refine x_bipush X (by decide) dX11_letting_57 ?_
          refine x_bipush X (by decide) dX11_letting_59 ?_
          refine x_cv (x_runV (k := 2) (As := [.int (iI (10)), .int (iI (11))]) (rest := []) X hW (c_X11_result l E A n _ g_53 i (10) (11) q N_53 (((ltV (mlc (nn - 2)) nn r : Nat) : Int)) (mlc (nn - 2) * nn) hi hO (by omega) (by omega) (by omega) (by omega) hN v_10 v_11 hbp (by omega) (by omega) (by omega)) (by omega) hO rfl gX11_letting_X11_result rfl rfl rfl (by decide +kernel) ⟨by decide, by decide⟩ rfl hl.1 rfl (Nat.le_of_ble_eq_true rfl) dX11_letting_61 ⟨Nat.zero_le _, Nat.zero_le _⟩) hW (fun g_61 H locs hp_61 hW => ?_)
          obtain ⟨⟨N_61, hN, v_0, v_1, ho8_61⟩, hf_61⟩ := hp_61
          have hfr : ∀ j, j ≠ i + 1 → g_61 j = g j := fun j hj => (hf_61 j hj).trans (hfr j hj)
          have hO : g_61 i = .inr (11, [.ref (A (i + 1)), .ref (A (i + 2)), .ref (A (i + 3)), .ref (A (i + 4)), .int (iI (q 0)), .ref (A (i + 5)), .ref (A (i + 6)), .ref (A (i + 7)), .ref (A (i + 8)), .int (iI (q 1)), .ref (A (i + 9)), .ref (A (i + 10)), .ref (A (i + 11)), .int (iI (q 2)), .ref (A (i + 12)), .ref (A (i + 13)), .int (iI (q 3)), .ref (A (i + 14)), .ref (A (i + 15)), .ref (A (i + 16)), .int (iI (q 4))]) := by rw [hf_61 _ (by omega)]; exact hO
          refine x_iconst X dX11_letting_64 ?_
          exact x_zret X hr hlk (by decide) hW (⟨by rw [if_pos (by omega)], fun _ => by rw [← hnn, ← hr9]; exact ⟨_, hN, v_0, v_1⟩, fun h => absurd (show (1 ≤ z ∧ z ≤ 60) ∧ 0 ≤ y ∧ y < z by omega) h, hfr⟩) dX11_letting_65
        · refine x_iconst X dX11_letting_20 ?_
          exact x_zret X hr hlk (by decide) hW (⟨by rw [if_neg (by omega)], fun h => absurd h (by omega), fun _ => rfl, fun _ _ => rfl⟩) dX11_letting_21

set_option maxHeartbeats 4000000 in
set_option maxRecDepth 100000 in
/-- pass -/
theorem c_X11_pass (l : Launch) (E : wE) (A : Nat → Nat) (n sz : Nat) (g : Nat → va_E) (i : Nat) (q : Nat → Int) (N : Nat → Int) (z : Int) (hi : i + 16 < n) (hO : g i = mO A i q) (hN : MN E A g i N) (hz : I32 z) : Met l yX11_pass wsX11_pass ({ frames := 62, cells := 0, slots := 0, locals := 2000 } : Room) (va_Pc [.ref (A (i)), .int (iI (z))] (wPre E A n sz g)) (va_Qi (fun r g' => r = iI (if 1 ≤ z ∧ z ≤ 60 then ((psB (mlc (z.toNat - 2)) z.toNat (z.toNat - 1) : Nat) : Int) else -1) ∧ (∃ N' : Nat → Int, MN E A g' i N' ∧ ∀ x, x < 2 → N' x = N x) ∧ ∀ j, j ≠ i + 1 → g' j = g j) (wAt E A n) (wF A n sz)) 0 0 (wF A n sz) := by
  refine x_met (cc := cX11_pass) (maxL := 4) (ret := (some .int)) [.ref (A (i)), .int (iI (z))] (by decide) rfl (Nat.le_of_ble_eq_true rfl) ?_
  intro p_ e_ s_ m_ below meth c_ ls X hr hlk hnm hsz hW hl
  have hl : lv_has ls 4 [(0, .ref (A (i))), (1, .int (iI (z)))] := hl
  have hO : g i = .inr (11, [.ref (A (i + 1)), .ref (A (i + 2)), .ref (A (i + 3)), .ref (A (i + 4)), .int (iI (q 0)), .ref (A (i + 5)), .ref (A (i + 6)), .ref (A (i + 7)), .ref (A (i + 8)), .int (iI (q 1)), .ref (A (i + 9)), .ref (A (i + 10)), .ref (A (i + 11)), .int (iI (q 2)), .ref (A (i + 12)), .ref (A (i + 13)), .int (iI (q 3)), .ref (A (i + 14)), .ref (A (i + 15)), .ref (A (i + 16)), .int (iI (q 4))]) := hO
  have hOg := hO
  have hfr : ∀ j, j ≠ i + 1 → g j = g j := fun _ _ => rfl
  have hoth : ∀ x, x < 2 → N x = N x := fun _ _ => rfl
  have hz1 := hz.1
  have hz2 := hz.2
  refine lv_iload_n X.1 X.2.1 dX11_pass_0 rfl (lv_at hl 1 rfl) ?_
  refine x_iconst X dX11_pass_1 ?_
  refine x_icmp_lt (tgt := 11) X hz ⟨by decide, by decide⟩ dX11_pass_2 (by decide) (fun b_2 => ?_) (fun b_2 => ?_)
  · refine x_iconst X dX11_pass_11 ?_
    exact x_iret X hr hlk hW (⟨by rw [if_neg (by omega)], ⟨N, hN, hoth⟩, hfr⟩) dX11_pass_12
  · refine lv_iload_n X.1 X.2.1 dX11_pass_5 rfl (lv_at hl 1 rfl) ?_
    refine x_bipush X (by decide) dX11_pass_6 ?_
    refine x_icmp_le (tgt := 13) X hz ⟨by decide, by decide⟩ dX11_pass_8 (by decide) (fun b_8 => ?_) (fun b_8 => ?_)
    · obtain ⟨nn, hnn⟩ : ∃ nn, nn = z.toNat := ⟨_, rfl⟩
      have hzn : z = (nn : Int) := by omega
      have hcp := mlc_cap (t := nn - 2) (by omega)
      refine lv_aload_n X.1 X.2.1 dX11_pass_13 rfl (lv_at hl 0 rfl) ?_
      refine x_iconst X dX11_pass_14 ?_
      refine lv_iload_n X.1 X.2.1 dX11_pass_15 rfl (lv_at hl 1 rfl) ?_
      refine x_seti ((nn : Int)) hzn ?_
      refine x_cv (x_runV (k := 2) (As := [.int (iI (3)), .int (iI ((nn : Int)))]) (rest := []) X hW (c_X11_multiple l E A n _ g i q N nn hi hO hN (by omega) (by omega)) (by omega) hO rfl gX11_pass_X11_multiple rfl rfl rfl (by decide +kernel) ⟨by decide, by decide⟩ rfl hl.1 rfl (Nat.le_of_ble_eq_true rfl) dX11_pass_16 ⟨Nat.zero_le _, Nat.zero_le _⟩) hW (fun g_16 H locs hp_16 hW => ?_)
      obtain ⟨⟨N_16, hN, v_3, ho_16⟩, hf_16⟩ := hp_16
      have hfr : ∀ j, j ≠ i + 1 → g_16 j = g j := fun j hj => (hf_16 j hj).trans (hfr j hj)
      have hoth : ∀ x, x < 2 → N_16 x = N x := fun x hx => (ho_16 x (by omega)).trans (hoth x hx)
      have hO : g_16 i = .inr (11, [.ref (A (i + 1)), .ref (A (i + 2)), .ref (A (i + 3)), .ref (A (i + 4)), .int (iI (q 0)), .ref (A (i + 5)), .ref (A (i + 6)), .ref (A (i + 7)), .ref (A (i + 8)), .int (iI (q 1)), .ref (A (i + 9)), .ref (A (i + 10)), .ref (A (i + 11)), .int (iI (q 2)), .ref (A (i + 12)), .ref (A (i + 13)), .int (iI (q 3)), .ref (A (i + 14)), .ref (A (i + 15)), .ref (A (i + 16)), .int (iI (q 4))]) := by rw [hf_16 _ (by omega)]; exact hO
      refine x_iconst X dX11_pass_19 ?_
      refine x_seti (((0 : Nat) : Int)) rfl ?_
      refine lv_istore_n (lv' := [(2, .int (iI (((0 : Nat) : Int)))), (0, .ref (A (i))), (1, .int (iI (z)))]) X.1 X.2.1 dX11_pass_20 rfl hl (by decide) rfl (fun ls hl => ?_)
      refine lv_aload_n X.1 X.2.1 dX11_pass_21 rfl (lv_at hl 1 rfl) ?_
      refine lv_iload_n X.1 X.2.1 dX11_pass_22 rfl (lv_at hl 2 rfl) ?_
      refine x_seti ((nn : Int)) hzn ?_
      refine x_iconst X dX11_pass_23 ?_
      refine x_seti (((0 : Nat) : Int)) rfl ?_
      refine x_cv (x_runV (k := 2) (As := [.int (iI ((nn : Int))), .int (iI (((0 : Nat) : Int)))]) (rest := []) X hW (c_X11_lets l E A n _ g_16 i q N_16 (mlc (nn - 2)) nn (0) hi hO hN v_3 hcp.1 (by omega) (by omega)) (by omega) hO rfl gX11_pass_X11_lets rfl rfl rfl (by decide +kernel) ⟨by decide, by decide⟩ rfl hl.1 rfl (Nat.le_of_ble_eq_true rfl) dX11_pass_24 ⟨Nat.zero_le _, Nat.zero_le _⟩) hW (fun g_24 H locs hp_24 hW => ?_)
      obtain ⟨⟨N_24, hN, v_2, ho_24⟩, hf_24⟩ := hp_24
      have hfr : ∀ j, j ≠ i + 1 → g_24 j = g j := fun j hj => (hf_24 j hj).trans (hfr j hj)
      have hoth : ∀ x, x < 2 → N_24 x = N x := fun x hx => (ho_24 x (by omega)).trans (hoth x hx)
      have hO : g_24 i = .inr (11, [.ref (A (i + 1)), .ref (A (i + 2)), .ref (A (i + 3)), .ref (A (i + 4)), .int (iI (q 0)), .ref (A (i + 5)), .ref (A (i + 6)), .ref (A (i + 7)), .ref (A (i + 8)), .int (iI (q 1)), .ref (A (i + 9)), .ref (A (i + 10)), .ref (A (i + 11)), .int (iI (q 2)), .ref (A (i + 12)), .ref (A (i + 13)), .int (iI (q 3)), .ref (A (i + 14)), .ref (A (i + 15)), .ref (A (i + 16)), .int (iI (q 4))]) := by rw [hf_24 _ (by omega)]; exact hO
      have v_3 := (ho_24 (3) (by omega)).trans v_3
      refine lv_aload_n X.1 X.2.1 dX11_pass_27 rfl (lv_at hl 1 rfl) ?_
      refine x_bipush X (by decide) dX11_pass_28 ?_
      refine x_iconst X dX11_pass_30 ?_
      refine x_cv (x_runV (k := 2) (As := [.int (iI (10)), .int (iI (2))]) (rest := []) X hW (c_X11_copy l E A n _ g_24 i (10) (2) q N_24 hi hO (by omega) (by omega) (by omega) hN) (by omega) hO rfl gX11_pass_X11_copy rfl rfl rfl (by decide +kernel) ⟨by decide, by decide⟩ rfl hl.1 rfl (Nat.le_of_ble_eq_true rfl) dX11_pass_31 ⟨Nat.zero_le _, Nat.zero_le _⟩) hW (fun g_31 H locs hp_31 hW => ?_)
      obtain ⟨hN, hf_31⟩ := hp_31
      obtain ⟨N_31, hN_31⟩ : ∃ N9 : Nat → Int, N9 = va_up N_24 10 (N_24 (2)) := ⟨_, rfl⟩
      rw [← hN_31] at hN
      have hO : g_31 i = .inr (11, [.ref (A (i + 1)), .ref (A (i + 2)), .ref (A (i + 3)), .ref (A (i + 4)), .int (iI (q 0)), .ref (A (i + 5)), .ref (A (i + 6)), .ref (A (i + 7)), .ref (A (i + 8)), .int (iI (q 1)), .ref (A (i + 9)), .ref (A (i + 10)), .ref (A (i + 11)), .int (iI (q 2)), .ref (A (i + 12)), .ref (A (i + 13)), .int (iI (q 3)), .ref (A (i + 14)), .ref (A (i + 15)), .ref (A (i + 16)), .int (iI (q 4))]) := by rw [hf_31 _ (by omega)]; exact hO
      have v_10 : N_31 10 = ((ltV (mlc (nn - 2)) nn (0) : Nat) : Int) := by rw [hN_31, va_up_self, v_2]
      have v_2 : N_31 2 = ((ltV (mlc (nn - 2)) nn (0) : Nat) : Int) := by rw [hN_31, va_up_ne _ _ (by omega)]; exact v_2
      have v_3 : N_31 3 = ((mlc (nn - 2) : Nat) : Int) := by rw [hN_31, va_up_ne _ _ (by omega)]; exact v_3
      have hoth : ∀ x, x < 2 → N_31 x = N x := fun x hx => (congrFun hN_31 x).trans ((va_up_ne _ _ (by omega)).trans (hoth x hx))
      have hfr : ∀ j, j ≠ i + 1 → g_31 j = g j := fun j hj => (hf_31 j hj).trans (hfr j hj)
      refine x_iconst X dX11_pass_34 ?_
      refine x_seti (((0 + 1 : Nat) : Int)) rfl ?_
      refine lv_istore_n (lv' := [(3, .int (iI (((0 + 1 : Nat) : Int)))), (2, .int (iI (((0 : Nat) : Int)))), (0, .ref (A (i))), (1, .int (iI (z)))]) X.1 X.2.1 dX11_pass_35 rfl hl (by decide) rfl (fun ls hl => ?_)
      have loop_36 : ∀ (fuel : Nat) (r : Nat) (bs : Nat) (N1 : Nat → Int) (g1 : Nat → va_E) (H : Heap) (locs : List Loc) (ls : Array Slot), (nn - r) < fuel → (r ≤ nn - 1) → (bs = psB (mlc (nn - 2)) nn r) → (MN E A g1 i N1) → (N1 3 = ((mlc (nn - 2) : Nat) : Int)) → (N1 10 = ((psM (mlc (nn - 2)) nn r : Nat) : Int)) → (∀ x, x < 2 → N1 x = N x) → (∀ j, j ≠ i + 1 → g1 j = g j) → wH E (wF A n sz) A n s_ g1 H locs → lv_has ls 4 [(0, .ref (A (i))), (1, .int (iI (z))), (2, .int (iI (((bs : Nat) : Int)))), (3, .int (iI (((r + 1 : Nat) : Int))))] → W p_ l e_ ({ frames := 62, cells := 0, slots := 0, locals := 2000 } : Room) s_ m_ [.ref (A (i)), .int (iI (z))].toArray below meth c_ H locs 0 0 (MQ below (va_Qi (fun r g' => r = iI (if 1 ≤ z ∧ z ≤ 60 then ((psB (mlc (z.toNat - 2)) z.toNat (z.toNat - 1) : Nat) : Int) else -1) ∧ (∃ N' : Nat → Int, MN E A g' i N' ∧ ∀ x, x < 2 → N' x = N x) ∧ ∀ j, j ≠ i + 1 → g' j = g j) (wAt E A n) (wF A n sz)) [.ref (A (i)), .int (iI (z))].toArray s_ 0 0 (wF A n sz)) (F0 m_ 36 ls []) := by
        intro fuel
        induction fuel with
        | zero => intro r bs N1 g1 H locs ls hm; exact absurd hm (Nat.not_lt_zero _)
        | succ fuel ih_36 =>
          intro r bs N1 g1 H locs ls hm hr8 hbs hN v_3 v_10 hoth hfr hW hl
          have hO : g1 i = .inr (11, [.ref (A (i + 1)), .ref (A (i + 2)), .ref (A (i + 3)), .ref (A (i + 4)), .int (iI (q 0)), .ref (A (i + 5)), .ref (A (i + 6)), .ref (A (i + 7)), .ref (A (i + 8)), .int (iI (q 1)), .ref (A (i + 9)), .ref (A (i + 10)), .ref (A (i + 11)), .int (iI (q 2)), .ref (A (i + 12)), .ref (A (i + 13)), .int (iI (q 3)), .ref (A (i + 14)), .ref (A (i + 15)), .ref (A (i + 16)), .int (iI (q 4))]) := (hfr _ (by omega)).trans hOg
          refine lv_iload_n X.1 X.2.1 dX11_pass_36 rfl (lv_at hl 3 rfl) ?_
          refine lv_iload_n X.1 X.2.1 dX11_pass_37 rfl (lv_at hl 1 rfl) ?_
          refine x_icmp_ge (tgt := 72) X ⟨by omega, by omega⟩ hz dX11_pass_38 (by decide) (fun b_38 => ?_) (fun b_38 => ?_)
          · refine lv_iload_n X.1 X.2.1 dX11_pass_72 rfl (lv_at hl 2 rfl) ?_
            exact x_iret X hr hlk hW (⟨by rw [if_pos (by omega), ← hnn, hbs, show r = nn - 1 from by omega], ⟨N1, hN, hoth⟩, hfr⟩) dX11_pass_73
          · refine lv_aload_n X.1 X.2.1 dX11_pass_41 rfl (lv_at hl 0 rfl) ?_
            refine lv_iload_n X.1 X.2.1 dX11_pass_42 rfl (lv_at hl 1 rfl) ?_
            refine x_seti ((nn : Int)) hzn ?_
            refine lv_iload_n X.1 X.2.1 dX11_pass_43 rfl (lv_at hl 3 rfl) ?_
            refine x_cv (x_runV (k := 2) (As := [.int (iI ((nn : Int))), .int (iI (((r + 1 : Nat) : Int)))]) (rest := []) X hW (c_X11_lets l E A n _ g1 i q N1 (mlc (nn - 2)) nn (r + 1) hi hO hN v_3 hcp.1 (by omega) (by omega)) (by omega) hO rfl gX11_pass_X11_lets rfl rfl rfl (by decide +kernel) ⟨by decide, by decide⟩ rfl hl.1 rfl (Nat.le_of_ble_eq_true rfl) dX11_pass_44 ⟨Nat.zero_le _, Nat.zero_le _⟩) hW (fun g_44 H locs hp_44 hW => ?_)
            obtain ⟨⟨N_44, hN, v_2, ho_44⟩, hf_44⟩ := hp_44
            have hfr : ∀ j, j ≠ i + 1 → g_44 j = g j := fun j hj => (hf_44 j hj).trans (hfr j hj)
            have hoth : ∀ x, x < 2 → N_44 x = N x := fun x hx => (ho_44 x (by omega)).trans (hoth x hx)
            have hO : g_44 i = .inr (11, [.ref (A (i + 1)), .ref (A (i + 2)), .ref (A (i + 3)), .ref (A (i + 4)), .int (iI (q 0)), .ref (A (i + 5)), .ref (A (i + 6)), .ref (A (i + 7)), .ref (A (i + 8)), .int (iI (q 1)), .ref (A (i + 9)), .ref (A (i + 10)), .ref (A (i + 11)), .int (iI (q 2)), .ref (A (i + 12)), .ref (A (i + 13)), .int (iI (q 3)), .ref (A (i + 14)), .ref (A (i + 15)), .ref (A (i + 16)), .int (iI (q 4))]) := by rw [hf_44 _ (by omega)]; exact hO
            have v_3 := (ho_44 (3) (by omega)).trans v_3
            have v_10 := (ho_44 (10) (by omega)).trans v_10
            refine lv_aload_n X.1 X.2.1 dX11_pass_47 rfl (lv_at hl 0 rfl) ?_
            refine x_iconst X dX11_pass_48 ?_
            refine x_bipush X (by decide) dX11_pass_49 ?_
            refine x_ci (x_runV (k := 2) (As := [.int (iI (2)), .int (iI (10))]) (rest := []) X hW (c_X11_compared l E A n _ g_44 i (2) (10) q N_44 hi hO (by omega) (by omega) hN) (by omega) hO rfl gX11_pass_X11_compared rfl rfl rfl (by decide +kernel) ⟨by decide, by decide⟩ rfl hl.1 rfl (Nat.le_of_ble_eq_true rfl) dX11_pass_51 ⟨Nat.zero_le _, Nat.zero_le _⟩) hW (fun r_51 g_51 H locs hp_51 hW => ?_)
            obtain ⟨hr_51, he_51⟩ := hp_51
            rw [he_51] at hW
            rw [v_2, v_10] at hr_51
            subst hr_51
            refine x_if_le (tgt := 66) X (cmp_rng _ _) dX11_pass_54 (by decide) (fun b_54 => ?_) (fun b_54 => ?_)
            · have hno := cmp_le b_54
              refine lv_iinc (v := iI (((r + 1 + 1 : Nat) : Int))) (lv' := [(3, .int (iI (((r + 1 + 1 : Nat) : Int)))), (0, .ref (A (i))), (1, .int (iI (z))), (2, .int (iI (((bs : Nat) : Int))))]) X.1 X.2.1 dX11_pass_66 hl (k := 3) rfl (by rw [show (Int32.ofInt (1)) = iI (1) from rfl, iI_add]; rfl) (by decide) rfl (fun ls hl => ?_)
              refine lv_goto (tgt := 36) X.1 X.2.1 dX11_pass_69 (by decide) ?_
              exact ih_36 (r + 1) bs N_44 g_44 _ _ _ (by omega) (by omega) (by show _ = (if psM (mlc (nn - 2)) nn r < ltV (mlc (nn - 2)) nn (r + 1) then r + 1 else psB (mlc (nn - 2)) nn r); rw [if_neg (by omega)]; exact hbs) hN v_3 (by rw [v_10]; show _ = ((if psM (mlc (nn - 2)) nn r < ltV (mlc (nn - 2)) nn (r + 1) then ltV (mlc (nn - 2)) nn (r + 1) else psM (mlc (nn - 2)) nn r : Nat) : Int); rw [if_neg (by omega)]) hoth hfr hW (lv_sub hl [1, 2, 3, 0] rfl)
            · have hys := cmp_gt b_54
              refine lv_aload_n X.1 X.2.1 dX11_pass_57 rfl (lv_at hl 0 rfl) ?_
              refine x_bipush X (by decide) dX11_pass_58 ?_
              refine x_iconst X dX11_pass_60 ?_
              refine x_cv (x_runV (k := 2) (As := [.int (iI (10)), .int (iI (2))]) (rest := []) X hW (c_X11_copy l E A n _ g_44 i (10) (2) q N_44 hi hO (by omega) (by omega) (by omega) hN) (by omega) hO rfl gX11_pass_X11_copy rfl rfl rfl (by decide +kernel) ⟨by decide, by decide⟩ rfl hl.1 rfl (Nat.le_of_ble_eq_true rfl) dX11_pass_61 ⟨Nat.zero_le _, Nat.zero_le _⟩) hW (fun g_61 H locs hp_61 hW => ?_)
              obtain ⟨hN, hf_61⟩ := hp_61
              obtain ⟨N_61, hN_61⟩ : ∃ N9 : Nat → Int, N9 = va_up N_44 10 (N_44 (2)) := ⟨_, rfl⟩
              rw [← hN_61] at hN
              have hO : g_61 i = .inr (11, [.ref (A (i + 1)), .ref (A (i + 2)), .ref (A (i + 3)), .ref (A (i + 4)), .int (iI (q 0)), .ref (A (i + 5)), .ref (A (i + 6)), .ref (A (i + 7)), .ref (A (i + 8)), .int (iI (q 1)), .ref (A (i + 9)), .ref (A (i + 10)), .ref (A (i + 11)), .int (iI (q 2)), .ref (A (i + 12)), .ref (A (i + 13)), .int (iI (q 3)), .ref (A (i + 14)), .ref (A (i + 15)), .ref (A (i + 16)), .int (iI (q 4))]) := by rw [hf_61 _ (by omega)]; exact hO
              have v_10 : N_61 10 = ((ltV (mlc (nn - 2)) nn (r + 1) : Nat) : Int) := by rw [hN_61, va_up_self, v_2]
              have v_2 : N_61 2 = ((ltV (mlc (nn - 2)) nn (r + 1) : Nat) : Int) := by rw [hN_61, va_up_ne _ _ (by omega)]; exact v_2
              have v_3 : N_61 3 = ((mlc (nn - 2) : Nat) : Int) := by rw [hN_61, va_up_ne _ _ (by omega)]; exact v_3
              have hoth : ∀ x, x < 2 → N_61 x = N x := fun x hx => (congrFun hN_61 x).trans ((va_up_ne _ _ (by omega)).trans (hoth x hx))
              have hfr : ∀ j, j ≠ i + 1 → g_61 j = g j := fun j hj => (hf_61 j hj).trans (hfr j hj)
              refine lv_iload_n X.1 X.2.1 dX11_pass_64 rfl (lv_at hl 3 rfl) ?_
              refine lv_istore_n (lv' := [(2, .int (iI (((r + 1 : Nat) : Int)))), (0, .ref (A (i))), (1, .int (iI (z))), (3, .int (iI (((r + 1 : Nat) : Int))))]) X.1 X.2.1 dX11_pass_65 rfl hl (by decide) rfl (fun ls hl => ?_)
              refine lv_iinc (v := iI (((r + 1 + 1 : Nat) : Int))) (lv' := [(3, .int (iI (((r + 1 + 1 : Nat) : Int)))), (2, .int (iI (((r + 1 : Nat) : Int)))), (0, .ref (A (i))), (1, .int (iI (z)))]) X.1 X.2.1 dX11_pass_66 hl (k := 3) rfl (by rw [show (Int32.ofInt (1)) = iI (1) from rfl, iI_add]; rfl) (by decide) rfl (fun ls hl => ?_)
              refine lv_goto (tgt := 36) X.1 X.2.1 dX11_pass_69 (by decide) ?_
              exact ih_36 (r + 1) (r + 1) N_61 g_61 _ _ _ (by omega) (by omega) (by show _ = (if psM (mlc (nn - 2)) nn r < ltV (mlc (nn - 2)) nn (r + 1) then r + 1 else psB (mlc (nn - 2)) nn r); rw [if_pos hys]) hN v_3 (by rw [v_10]; show _ = ((if psM (mlc (nn - 2)) nn r < ltV (mlc (nn - 2)) nn (r + 1) then ltV (mlc (nn - 2)) nn (r + 1) else psM (mlc (nn - 2)) nn r : Nat) : Int); rw [if_pos hys]) hoth hfr hW (lv_sub hl [2, 3, 1, 0] rfl)
      exact loop_36 _ 0 0 N_31 g_31 _ _ _ (Nat.lt_succ_self _) (Nat.zero_le _) rfl hN v_3 v_10 hoth hfr hW (lv_sub hl [2, 3, 1, 0] rfl)
    · refine x_iconst X dX11_pass_11 ?_
      exact x_iret X hr hlk hW (⟨by rw [if_neg (by omega)], ⟨N, hN, hoth⟩, hfr⟩) dX11_pass_12
