/-! ===== the class: passing, ranking, happenings, boxes, the result ===== -/
theorem yo01 (a b c d : Nat) : (if a = b then (1 : Int) else if c ≤ d then 1 else 0) = 0 ∨ (if a = b then (1 : Int) else if c ≤ d then 1 else 0) = 1 := by
  by_cases h : a = b
  · exact Or.inr (if_pos h)
  · by_cases h2 : c ≤ d
    · exact Or.inr (by rw [if_neg h, if_pos h2])
    · exact Or.inl (by rw [if_neg h, if_neg h2])

set_option maxHeartbeats 4000000 in
set_option maxRecDepth 100000 in
/-- letting -/
theorem c_X10_letting (l : Launch) (E : wE) (A : Nat → Nat) (n sz : Nat) (g : Nat → va_E) (i bk : Nat) (WH : Nat) (z y : Int) (hi : i + 209 < n) (hO : g i = kO A i bk) (hP : PasV E A g (i + 54) WH) (hW30 : WH ≤ 10 ^ 30) (hRX : ResX E A g (i + 3)) (hz : I32 z) (hy : I32 y) : Met l yX10_letting wsX10_letting ({ frames := 6, cells := 0, slots := 0, locals := 300 } : Room) (va_Pc [.ref (A (i)), .int (iI (z)), .int (iI (y))] (wPre E A n sz g)) (va_Qi (fun r g' => r = iI (if (1 ≤ z ∧ z ≤ 60) ∧ 0 ≤ y ∧ y < z then 1 else 0) ∧ ((1 ≤ z ∧ z ≤ 60) ∧ 0 ≤ y ∧ y < z → ResV E A g' (i + 3) (rdT ((lsW WH z.toNat (z.toNat - 1 - y.toNat) : Nat) : Int) (pr ppV 17 * z.toNat)) (rdB ((lsW WH z.toNat (z.toNat - 1 - y.toNat) : Nat) : Int) (pr ppV 17 * z.toNat)) ∧ PasV E A g' (i + 54) WH) ∧ (¬ ((1 ≤ z ∧ z ≤ 60) ∧ 0 ≤ y ∧ y < z) → g' = g) ∧ ∀ j, (j < i + 3 ∨ (i + 11 < j ∧ j < i + 54) ∨ i + 64 < j) → g' j = g j) (wAt E A n) (wF A n sz)) 0 0 (wF A n sz) := by
  refine x_met (cc := cX10_letting) (maxL := 3) (ret := (some .boolean)) [.ref (A (i)), .int (iI (z)), .int (iI (y))] (by decide) rfl (Nat.le_of_ble_eq_true rfl) ?_
  intro p_ e_ s_ m_ below meth c_ ls X hr hlk hnm hsz hW hl
  have hl : lv_has ls 3 [(0, .ref (A (i))), (1, .int (iI (z))), (2, .int (iI (y)))] := hl
  have lk_0 : Cond.constantLong RX10 137 (60) ∈ wsX10_letting := by decide +kernel
  have lk_1 : ∀ w ∈ wsX100, w ∈ wsX10_letting := by decide +kernel
  have lk_2 : Cond.fieldLink RX10 42 (TX10 5).1 (TX10 5).2.1 (TX10 5).2.2.1 ∈ wsX10_letting := by decide +kernel
  have lk_3 : Cond.fieldLink RX10 28 (TX10 3).1 (TX10 3).2.1 (TX10 3).2.2.1 ∈ wsX10_letting := by decide +kernel
  have hO : g i = .inr (10, [.ref (A (i + 1)), .ref (A (i + 2)), .int (iI ((bk : Int))), .ref (A (i + 3)), .ref (A (i + 12)), .ref (A (i + 54)), .ref (A (i + 65)), .ref (A (i + 114)), .ref (A (i + 123))]) := hO
  have hz1 := hz.1
  have hz2 := hz.2
  have hy1 := hy.1
  have hy2 := hy.2
  obtain ⟨⟨rz, hr0⟩, _⟩ := id hRX
  have hps := hP.1
  refine lv_iload_n X.1 X.2.1 dX10_letting_0 rfl (lv_at hl 1 rfl) ?_
  refine x_i2l X hz dX10_letting_1 ?_
  refine x_lconst X 1 (by decide) dX10_letting_2 ?_
  refine x_ldc2 X (60) (by decide) lk_0 dX10_letting_3 ?_
  refine x_ci (x_runS (k := 3) (As := [.long (lI (z)), .long (lI (1)), .long (lI (60))]) (rest := []) X hW (c_X10_isWithin l E A n _ g (z) (1) (60) ⟨by omega, by omega⟩ ⟨by omega, by omega⟩ ⟨by omega, by omega⟩) gX10_letting_X10_isWithin rfl rfl rfl (by decide +kernel) ⟨by decide, by decide⟩ rfl hl.1 rfl (Nat.le_of_ble_eq_true rfl) dX10_letting_6 ⟨Nat.zero_le _, Nat.zero_le _⟩) hW (fun r_6 g_6 H locs hp_6 hW => ?_)
  obtain ⟨hr_6, he_6⟩ := hp_6
  rw [he_6] at hW
  subst hr_6
  refine x_if_eq (tgt := 25) X ⟨by split <;> decide, by split <;> decide⟩ dX10_letting_9 (by decide) (fun b_9 => ?_) (fun b_9 => ?_)
  · have hs : ¬ (1 ≤ z ∧ z ≤ 60) := fun h => by rw [if_pos h] at b_9; omega
    refine x_iconst X dX10_letting_25 ?_
    exact x_zret X hr hlk (by decide) hW (⟨by rw [if_neg (by omega)], fun h => absurd h (by omega), fun _ => rfl, fun _ _ => rfl⟩) dX10_letting_26
  · have hs : 1 ≤ z ∧ z ≤ 60 := Decidable.byContradiction (fun h => by rw [if_neg h] at b_9; exact b_9 rfl)
    refine lv_iload_n X.1 X.2.1 dX10_letting_12 rfl (lv_at hl 2 rfl) ?_
    refine x_i2l X hy dX10_letting_13 ?_
    refine x_lconst X 0 (by decide) dX10_letting_14 ?_
    refine lv_iload_n X.1 X.2.1 dX10_letting_15 rfl (lv_at hl 1 rfl) ?_
    refine x_iconst X dX10_letting_16 ?_
    refine x_isub X dX10_letting_17 ?_
    refine x_i2l X ⟨by omega, by omega⟩ dX10_letting_18 ?_
    refine x_ci (x_runS (k := 3) (As := [.long (lI (y)), .long (lI (0)), .long (lI (z - 1))]) (rest := []) X hW (c_X10_isWithin l E A n _ g (y) (0) (z - 1) ⟨by omega, by omega⟩ ⟨by omega, by omega⟩ ⟨by omega, by omega⟩) gX10_letting_X10_isWithin rfl rfl rfl (by decide +kernel) ⟨by decide, by decide⟩ rfl hl.1 rfl (Nat.le_of_ble_eq_true rfl) dX10_letting_19 ⟨Nat.zero_le _, Nat.zero_le _⟩) hW (fun r_19 g_19 H locs hp_19 hW => ?_)
    obtain ⟨hr_19, he_19⟩ := hp_19
    rw [he_19] at hW
    subst hr_19
    refine x_if_ne (tgt := 27) X ⟨by split <;> decide, by split <;> decide⟩ dX10_letting_22 (by decide) (fun b_22 => ?_) (fun b_22 => ?_)
    · have hs2 : 0 ≤ y ∧ y ≤ z - 1 := Decidable.byContradiction (fun h => by rw [if_neg h] at b_22; exact b_22 rfl)
      refine lv_aload_n X.1 X.2.1 dX10_letting_27 rfl (lv_at hl 0 rfl) ?_
      refine x_get (C := RX10) (T := TX10) (N := 9) X hW (by omega) hO rfl lk_1 5 (by decide) lk_2 rfl dX10_letting_28 ?_
      refine lv_iload_n X.1 X.2.1 dX10_letting_31 rfl (lv_at hl 1 rfl) ?_
      refine x_seti (((z.toNat : Nat) : Int)) (by omega) ?_
      refine lv_iload_n X.1 X.2.1 dX10_letting_32 rfl (lv_at hl 2 rfl) ?_
      refine x_seti (((y.toNat : Nat) : Int)) (by omega) ?_
      refine lv_aload_n X.1 X.2.1 dX10_letting_33 rfl (lv_at hl 0 rfl) ?_
      refine x_get (C := RX10) (T := TX10) (N := 9) X hW (by omega) hO rfl lk_1 3 (by decide) lk_3 rfl dX10_letting_34 ?_
      refine x_cv (x_runV (k := 3) (As := [.int (iI (((z.toNat : Nat) : Int))), .int (iI (((y.toNat : Nat) : Int))), .ref (A (i + 3))]) (rest := []) X hW (c_X6_winLetting l E A n _ g (i + 54) WH z.toNat y.toNat (i + 3) (by omega) hP (by omega) (by omega) (by omega) hW30 (by omega) hRX (by omega)) (by omega) hps rfl gX10_letting_X6_winLetting rfl rfl rfl (by decide +kernel) ⟨by decide, by decide⟩ rfl hl.1 rfl (Nat.le_of_ble_eq_true rfl) dX10_letting_37 ⟨Nat.zero_le _, Nat.zero_le _⟩) hW (fun g_37 H locs hp_37 hW => ?_)
      obtain ⟨hR2, hP2, hf9⟩ := hp_37
      refine x_iconst X dX10_letting_40 ?_
      exact x_zret X hr hlk (by decide) hW (⟨by rw [if_pos (by omega)], fun _ => ⟨hR2, hP2⟩, fun h => absurd (show (1 ≤ z ∧ z ≤ 60) ∧ 0 ≤ y ∧ y < z by omega) h, fun j hj => hf9 j (by omega)⟩) dX10_letting_41
    · have hs2 : ¬ (0 ≤ y ∧ y ≤ z - 1) := fun h => by rw [if_pos h] at b_22; omega
      refine x_iconst X dX10_letting_25 ?_
      exact x_zret X hr hlk (by decide) hW (⟨by rw [if_neg (by omega)], fun h => absurd h (by omega), fun _ => rfl, fun _ _ => rfl⟩) dX10_letting_26

set_option maxHeartbeats 4000000 in
set_option maxRecDepth 100000 in
/-- pass -/
theorem c_X10_pass (l : Launch) (E : wE) (A : Nat → Nat) (n sz : Nat) (g : Nat → va_E) (i bk : Nat) (WH : Nat) (z : Int) (hi : i + 209 < n) (hO : g i = kO A i bk) (hP : PasV E A g (i + 54) WH) (hW30 : WH ≤ 10 ^ 30) (hz : I32 z) : Met l yX10_pass wsX10_pass ({ frames := 6, cells := 0, slots := 0, locals := 300 } : Room) (va_Pc [.ref (A (i)), .int (iI (z))] (wPre E A n sz g)) (va_Qi (fun r g' => r = iI (if 1 ≤ z ∧ z ≤ 60 then ((lsB WH z.toNat z.toNat : Nat) : Int) else -1) ∧ PasV E A g' (i + 54) WH ∧ ∀ j, (j < i + 54 ∨ i + 64 < j) → g' j = g j) (wAt E A n) (wF A n sz)) 0 0 (wF A n sz) := by
  refine x_met (cc := cX10_pass) (maxL := 2) (ret := (some .int)) [.ref (A (i)), .int (iI (z))] (by decide) rfl (Nat.le_of_ble_eq_true rfl) ?_
  intro p_ e_ s_ m_ below meth c_ ls X hr hlk hnm hsz hW hl
  have hl : lv_has ls 2 [(0, .ref (A (i))), (1, .int (iI (z)))] := hl
  have lk_0 : Cond.constantLong RX10 137 (60) ∈ wsX10_pass := by decide +kernel
  have lk_1 : ∀ w ∈ wsX100, w ∈ wsX10_pass := by decide +kernel
  have lk_2 : Cond.fieldLink RX10 42 (TX10 5).1 (TX10 5).2.1 (TX10 5).2.2.1 ∈ wsX10_pass := by decide +kernel
  have hO : g i = .inr (10, [.ref (A (i + 1)), .ref (A (i + 2)), .int (iI ((bk : Int))), .ref (A (i + 3)), .ref (A (i + 12)), .ref (A (i + 54)), .ref (A (i + 65)), .ref (A (i + 114)), .ref (A (i + 123))]) := hO
  have hz1 := hz.1
  have hz2 := hz.2
  have hps := hP.1
  refine lv_iload_n X.1 X.2.1 dX10_pass_0 rfl (lv_at hl 1 rfl) ?_
  refine x_i2l X hz dX10_pass_1 ?_
  refine x_lconst X 1 (by decide) dX10_pass_2 ?_
  refine x_ldc2 X (60) (by decide) lk_0 dX10_pass_3 ?_
  refine x_ci (x_runS (k := 3) (As := [.long (lI (z)), .long (lI (1)), .long (lI (60))]) (rest := []) X hW (c_X10_isWithin l E A n _ g (z) (1) (60) ⟨by omega, by omega⟩ ⟨by omega, by omega⟩ ⟨by omega, by omega⟩) gX10_pass_X10_isWithin rfl rfl rfl (by decide +kernel) ⟨by decide, by decide⟩ rfl hl.1 rfl (Nat.le_of_ble_eq_true rfl) dX10_pass_6 ⟨Nat.zero_le _, Nat.zero_le _⟩) hW (fun r_6 g_6 H locs hp_6 hW => ?_)
  obtain ⟨hr_6, he_6⟩ := hp_6
  rw [he_6] at hW
  subst hr_6
  refine x_if_ne (tgt := 14) X ⟨by split <;> decide, by split <;> decide⟩ dX10_pass_9 (by decide) (fun b_9 => ?_) (fun b_9 => ?_)
  · have hs : 1 ≤ z ∧ z ≤ 60 := Decidable.byContradiction (fun h => by rw [if_neg h] at b_9; exact b_9 rfl)
    refine lv_aload_n X.1 X.2.1 dX10_pass_14 rfl (lv_at hl 0 rfl) ?_
    refine x_get (C := RX10) (T := TX10) (N := 9) X hW (by omega) hO rfl lk_1 5 (by decide) lk_2 rfl dX10_pass_15 ?_
    refine lv_iload_n X.1 X.2.1 dX10_pass_18 rfl (lv_at hl 1 rfl) ?_
    refine x_seti (((z.toNat : Nat) : Int)) (by omega) ?_
    refine x_ci (x_runV (k := 1) (As := [.int (iI (((z.toNat : Nat) : Int)))]) (rest := []) X hW (c_X6_bestToLet l E A n _ g (i + 54) WH z.toNat (by omega) hP (by omega) (by omega) hW30) (by omega) hps rfl gX10_pass_X6_bestToLet rfl rfl rfl (by decide +kernel) ⟨by decide, by decide⟩ rfl hl.1 rfl (Nat.le_of_ble_eq_true rfl) dX10_pass_19 ⟨Nat.zero_le _, Nat.zero_le _⟩) hW (fun r_19 g_19 H locs hp_19 hW => ?_)
    obtain ⟨hr9, hP2, hf9⟩ := hp_19
    subst hr9
    exact x_iret X hr hlk hW (⟨by rw [if_pos hs], hP2, fun j hj => hf9 j (by omega)⟩) dX10_pass_22
  · have hs : ¬ (1 ≤ z ∧ z ≤ 60) := fun h => by rw [if_pos h] at b_9; omega
    refine x_iconst X dX10_pass_12 ?_
    exact x_iret X hr hlk hW (⟨by rw [if_neg hs], hP, fun _ _ => rfl⟩) dX10_pass_13

set_option maxHeartbeats 4000000 in
set_option maxRecDepth 100000 in
/-- pay -/
theorem c_X10_pay (l : Launch) (E : wE) (A : Nat → Nat) (n sz : Nat) (g : Nat → va_E) (i bk : Nat) (py : Nat → Nat) (z b : Int) (hi : i + 209 < n) (hO : g i = kO A i bk) (hK : RkV E A g (i + 65) py) (hz : I32 z) (hb : I32 b) : Met l yX10_pay wsX10_pay ({ frames := 6, cells := 0, slots := 0, locals := 300 } : Room) (va_Pc [.ref (A (i)), .int (iI (z)), .int (iI (b))] (wPre E A n sz g)) (va_Qi (fun r g' => r = iI (if (1 ≤ z ∧ z ≤ 20) ∧ 0 ≤ b ∧ b ≤ 1000 then 1 else 0) ∧ ((1 ≤ z ∧ z ≤ 20) ∧ 0 ≤ b ∧ b ≤ 1000 → RkV E A g' (i + 65) (va_up py z.toNat b.toNat)) ∧ (¬ ((1 ≤ z ∧ z ≤ 20) ∧ 0 ≤ b ∧ b ≤ 1000) → g' = g) ∧ ∀ j, (j < i + 65 ∨ i + 113 < j) → g' j = g j) (wAt E A n) (wF A n sz)) 0 0 (wF A n sz) := by
  refine x_met (cc := cX10_pay) (maxL := 3) (ret := (some .boolean)) [.ref (A (i)), .int (iI (z)), .int (iI (b))] (by decide) rfl (Nat.le_of_ble_eq_true rfl) ?_
  intro p_ e_ s_ m_ below meth c_ ls X hr hlk hnm hsz hW hl
  have hl : lv_has ls 3 [(0, .ref (A (i))), (1, .int (iI (z))), (2, .int (iI (b)))] := hl
  have lk_0 : Cond.constantLong RX10 146 (20) ∈ wsX10_pay := by decide +kernel
  have lk_1 : Cond.constantLong RX10 148 (1000) ∈ wsX10_pay := by decide +kernel
  have lk_2 : ∀ w ∈ wsX100, w ∈ wsX10_pay := by decide +kernel
  have lk_3 : Cond.fieldLink RX10 49 (TX10 6).1 (TX10 6).2.1 (TX10 6).2.2.1 ∈ wsX10_pay := by decide +kernel
  have hO : g i = .inr (10, [.ref (A (i + 1)), .ref (A (i + 2)), .int (iI ((bk : Int))), .ref (A (i + 3)), .ref (A (i + 12)), .ref (A (i + 54)), .ref (A (i + 65)), .ref (A (i + 114)), .ref (A (i + 123))]) := hO
  have hz1 := hz.1
  have hz2 := hz.2
  have hb1 := hb.1
  have hb2 := hb.2
  obtain ⟨fy, fp, hrc, hrp, hfp, hn3, hn5, hny⟩ := id hK
  have hrk := hrc.1
  refine lv_iload_n X.1 X.2.1 dX10_pay_0 rfl (lv_at hl 1 rfl) ?_
  refine x_i2l X hz dX10_pay_1 ?_
  refine x_lconst X 1 (by decide) dX10_pay_2 ?_
  refine x_ldc2 X (20) (by decide) lk_0 dX10_pay_3 ?_
  refine x_ci (x_runS (k := 3) (As := [.long (lI (z)), .long (lI (1)), .long (lI (20))]) (rest := []) X hW (c_X10_isWithin l E A n _ g (z) (1) (20) ⟨by omega, by omega⟩ ⟨by omega, by omega⟩ ⟨by omega, by omega⟩) gX10_pay_X10_isWithin rfl rfl rfl (by decide +kernel) ⟨by decide, by decide⟩ rfl hl.1 rfl (Nat.le_of_ble_eq_true rfl) dX10_pay_6 ⟨Nat.zero_le _, Nat.zero_le _⟩) hW (fun r_6 g_6 H locs hp_6 hW => ?_)
  obtain ⟨hr_6, he_6⟩ := hp_6
  rw [he_6] at hW
  subst hr_6
  refine x_if_eq (tgt := 24) X ⟨by split <;> decide, by split <;> decide⟩ dX10_pay_9 (by decide) (fun b_9 => ?_) (fun b_9 => ?_)
  · have hs : ¬ (1 ≤ z ∧ z ≤ 20) := fun h => by rw [if_pos h] at b_9; omega
    refine x_iconst X dX10_pay_24 ?_
    exact x_zret X hr hlk (by decide) hW (⟨by rw [if_neg (by omega)], fun h => absurd h (by omega), fun _ => rfl, fun _ _ => rfl⟩) dX10_pay_25
  · have hs : 1 ≤ z ∧ z ≤ 20 := Decidable.byContradiction (fun h => by rw [if_neg h] at b_9; exact b_9 rfl)
    refine lv_iload_n X.1 X.2.1 dX10_pay_12 rfl (lv_at hl 2 rfl) ?_
    refine x_i2l X hb dX10_pay_13 ?_
    refine x_lconst X 0 (by decide) dX10_pay_14 ?_
    refine x_ldc2 X (1000) (by decide) lk_1 dX10_pay_15 ?_
    refine x_ci (x_runS (k := 3) (As := [.long (lI (b)), .long (lI (0)), .long (lI (1000))]) (rest := []) X hW (c_X10_isWithin l E A n _ g (b) (0) (1000) ⟨by omega, by omega⟩ ⟨by omega, by omega⟩ ⟨by omega, by omega⟩) gX10_pay_X10_isWithin rfl rfl rfl (by decide +kernel) ⟨by decide, by decide⟩ rfl hl.1 rfl (Nat.le_of_ble_eq_true rfl) dX10_pay_18 ⟨Nat.zero_le _, Nat.zero_le _⟩) hW (fun r_18 g_18 H locs hp_18 hW => ?_)
    obtain ⟨hr_18, he_18⟩ := hp_18
    rw [he_18] at hW
    subst hr_18
    refine x_if_ne (tgt := 26) X ⟨by split <;> decide, by split <;> decide⟩ dX10_pay_21 (by decide) (fun b_21 => ?_) (fun b_21 => ?_)
    · have hs2 : 0 ≤ b ∧ b ≤ 1000 := Decidable.byContradiction (fun h => by rw [if_neg h] at b_21; exact b_21 rfl)
      refine lv_aload_n X.1 X.2.1 dX10_pay_26 rfl (lv_at hl 0 rfl) ?_
      refine x_get (C := RX10) (T := TX10) (N := 9) X hW (by omega) hO rfl lk_2 6 (by decide) lk_3 rfl dX10_pay_27 ?_
      refine lv_iload_n X.1 X.2.1 dX10_pay_30 rfl (lv_at hl 1 rfl) ?_
      refine x_seti (((z.toNat : Nat) : Int)) (by omega) ?_
      refine lv_iload_n X.1 X.2.1 dX10_pay_31 rfl (lv_at hl 2 rfl) ?_
      refine x_seti (((b.toNat : Nat) : Int)) (by omega) ?_
      refine x_cv (x_runV (k := 2) (As := [.int (iI (((z.toNat : Nat) : Int))), .int (iI (((b.toNat : Nat) : Int)))]) (rest := []) X hW (c_X7_setPay l E A n _ g (i + 65) fy fp z.toNat b.toNat (by omega) hrc hrp (by omega) (by omega)) (by omega) hrk rfl gX10_pay_X7_setPay rfl rfl rfl (by decide +kernel) ⟨by decide, by decide⟩ rfl hl.1 rfl (Nat.le_of_ble_eq_true rfl) dX10_pay_32 ⟨Nat.zero_le _, Nat.zero_le _⟩) hW (fun g_32 H locs hp_32 hW => ?_)
      obtain ⟨hp2, hf9⟩ := hp_32
      refine x_iconst X dX10_pay_35 ?_
      exact x_zret X hr hlk (by decide) hW (⟨by rw [if_pos (by omega)], fun _ => ⟨fy, _, ⟨(hf9 _ (by omega)).trans hrc.1, (hf9 _ (by omega)).trans hrc.2.1, hrc.2.2⟩, hp2, fun k hk => if ek : k = z.toNat then (by rw [ek, va_up_self, upd_s]; exact ⟨rfl, by omega⟩) else (by rw [va_up_ne _ _ ek, upd_n ek]; exact hfp k hk), hn3.frame (hf9 _ (by omega)) (hf9 _ (by omega)), hn5.frame (hf9 _ (by omega)) (hf9 _ (by omega)), fun y hy => (hny y hy).frame (hf9 _ (by omega)) (hf9 _ (by omega))⟩, fun h => absurd (show (1 ≤ z ∧ z ≤ 20) ∧ 0 ≤ b ∧ b ≤ 1000 by omega) h, fun j hj => hf9 j (by omega)⟩) dX10_pay_36
    · have hs2 : ¬ (0 ≤ b ∧ b ≤ 1000) := fun h => by rw [if_pos h] at b_21; omega
      refine x_iconst X dX10_pay_24 ?_
      exact x_zret X hr hlk (by decide) hW (⟨by rw [if_neg (by omega)], fun h => absurd h (by omega), fun _ => rfl, fun _ _ => rfl⟩) dX10_pay_25

set_option maxHeartbeats 4000000 in
set_option maxRecDepth 100000 in
/-- ranks -/
theorem c_X10_ranks (l : Launch) (E : wE) (A : Nat → Nat) (n sz : Nat) (g : Nat → va_E) (i bk : Nat) (py : Nat → Nat) (z : Int) (hi : i + 209 < n) (hO : g i = kO A i bk) (hK : RkV E A g (i + 65) py) (hRX : ResX E A g (i + 3)) (hz : I32 z) : Met l yX10_ranks wsX10_ranks ({ frames := 8, cells := 0, slots := 0, locals := 400 } : Room) (va_Pc [.ref (A (i)), .int (iI (z))] (wPre E A n sz g)) (va_Qi (fun r g' => r = iI (if 1 ≤ z ∧ z ≤ 20 then 1 else 0) ∧ (1 ≤ z ∧ z ≤ 20 → ResV E A g' (i + 3) (rdT ((rkN py z.toNat z.toNat : Nat) : Int) (pr (fun k => k + 2) (z.toNat - 1))) (rdB ((rkN py z.toNat z.toNat : Nat) : Int) (pr (fun k => k + 2) (z.toNat - 1))) ∧ RkV E A g' (i + 65) py) ∧ (¬ (1 ≤ z ∧ z ≤ 20) → g' = g) ∧ ∀ j, (j < i + 3 ∨ (i + 11 < j ∧ j < i + 65) ∨ i + 113 < j) → g' j = g j) (wAt E A n) (wF A n sz)) 0 0 (wF A n sz) := by
  refine x_met (cc := cX10_ranks) (maxL := 2) (ret := (some .boolean)) [.ref (A (i)), .int (iI (z))] (by decide) rfl (Nat.le_of_ble_eq_true rfl) ?_
  intro p_ e_ s_ m_ below meth c_ ls X hr hlk hnm hsz hW hl
  have hl : lv_has ls 2 [(0, .ref (A (i))), (1, .int (iI (z)))] := hl
  have lk_0 : Cond.constantLong RX10 146 (20) ∈ wsX10_ranks := by decide +kernel
  have lk_1 : ∀ w ∈ wsX100, w ∈ wsX10_ranks := by decide +kernel
  have lk_2 : Cond.fieldLink RX10 49 (TX10 6).1 (TX10 6).2.1 (TX10 6).2.2.1 ∈ wsX10_ranks := by decide +kernel
  have lk_3 : Cond.fieldLink RX10 28 (TX10 3).1 (TX10 3).2.1 (TX10 3).2.2.1 ∈ wsX10_ranks := by decide +kernel
  have hO : g i = .inr (10, [.ref (A (i + 1)), .ref (A (i + 2)), .int (iI ((bk : Int))), .ref (A (i + 3)), .ref (A (i + 12)), .ref (A (i + 54)), .ref (A (i + 65)), .ref (A (i + 114)), .ref (A (i + 123))]) := hO
  have hz1 := hz.1
  have hz2 := hz.2
  obtain ⟨fy, fp, hrc, hrp, hfp, hn3, hn5, hny⟩ := id hK
  have hrk := hrc.1
  obtain ⟨⟨rz, hr0⟩, _⟩ := id hRX
  refine lv_iload_n X.1 X.2.1 dX10_ranks_0 rfl (lv_at hl 1 rfl) ?_
  refine x_i2l X hz dX10_ranks_1 ?_
  refine x_lconst X 1 (by decide) dX10_ranks_2 ?_
  refine x_ldc2 X (20) (by decide) lk_0 dX10_ranks_3 ?_
  refine x_ci (x_runS (k := 3) (As := [.long (lI (z)), .long (lI (1)), .long (lI (20))]) (rest := []) X hW (c_X10_isWithin l E A n _ g (z) (1) (20) ⟨by omega, by omega⟩ ⟨by omega, by omega⟩ ⟨by omega, by omega⟩) gX10_ranks_X10_isWithin rfl rfl rfl (by decide +kernel) ⟨by decide, by decide⟩ rfl hl.1 rfl (Nat.le_of_ble_eq_true rfl) dX10_ranks_6 ⟨Nat.zero_le _, Nat.zero_le _⟩) hW (fun r_6 g_6 H locs hp_6 hW => ?_)
  obtain ⟨hr_6, he_6⟩ := hp_6
  rw [he_6] at hW
  subst hr_6
  refine x_if_ne (tgt := 14) X ⟨by split <;> decide, by split <;> decide⟩ dX10_ranks_9 (by decide) (fun b_9 => ?_) (fun b_9 => ?_)
  · have hs : 1 ≤ z ∧ z ≤ 20 := Decidable.byContradiction (fun h => by rw [if_neg h] at b_9; exact b_9 rfl)
    refine lv_aload_n X.1 X.2.1 dX10_ranks_14 rfl (lv_at hl 0 rfl) ?_
    refine x_get (C := RX10) (T := TX10) (N := 9) X hW (by omega) hO rfl lk_1 6 (by decide) lk_2 rfl dX10_ranks_15 ?_
    refine lv_iload_n X.1 X.2.1 dX10_ranks_18 rfl (lv_at hl 1 rfl) ?_
    refine x_seti (((z.toNat : Nat) : Int)) (by omega) ?_
    refine lv_aload_n X.1 X.2.1 dX10_ranks_19 rfl (lv_at hl 0 rfl) ?_
    refine x_get (C := RX10) (T := TX10) (N := 9) X hW (by omega) hO rfl lk_1 3 (by decide) lk_3 rfl dX10_ranks_20 ?_
    refine x_cv (x_runV (k := 2) (As := [.int (iI (((z.toNat : Nat) : Int))), .ref (A (i + 3))]) (rest := []) X hW (c_X7_meanInto l E A n _ g (i + 65) fy fp py z.toNat (i + 3) (by omega) hrc hrp hfp hn3 hn5 hny (by omega) (by omega) (by omega) hRX (by omega)) (by omega) hrk rfl gX10_ranks_X7_meanInto rfl rfl rfl (by decide +kernel) ⟨by decide, by decide⟩ rfl hl.1 rfl (Nat.le_of_ble_eq_true rfl) dX10_ranks_23 ⟨Nat.zero_le _, Nat.zero_le _⟩) hW (fun g_23 H locs hp_23 hW => ?_)
    obtain ⟨hR2, ⟨k1, k2, k3, k4, k5, k6⟩, hf9⟩ := hp_23
    refine x_iconst X dX10_ranks_26 ?_
    exact x_zret X hr hlk (by decide) hW (⟨by rw [if_pos hs], fun _ => ⟨hR2, ⟨fy, fp, ⟨k1, k3, hrc.2.2⟩, k2, hfp, k4, k5, k6⟩⟩, fun h => absurd hs h, fun j hj => hf9 j (by omega)⟩) dX10_ranks_27
  · have hs : ¬ (1 ≤ z ∧ z ≤ 20) := fun h => by rw [if_pos h] at b_9; omega
    refine x_iconst X dX10_ranks_12 ?_
    exact x_zret X hr hlk (by decide) hW (⟨by rw [if_neg hs], fun h => absurd h hs, fun _ => rfl, fun _ _ => rfl⟩) dX10_ranks_13

set_option maxHeartbeats 4000000 in
set_option maxRecDepth 100000 in
/-- yes -/
theorem c_X10_yes (l : Launch) (E : wE) (A : Nat → Nat) (n sz : Nat) (g : Nat → va_E) (i bk : Nat) (py : Nat → Nat) (z y w : Int) (hi : i + 209 < n) (hO : g i = kO A i bk) (hK : RkV E A g (i + 65) py) (hz : I32 z) (hy : I32 y) (hw : I32 w) : Met l yX10_yes wsX10_yes ({ frames := 8, cells := 0, slots := 0, locals := 400 } : Room) (va_Pc [.ref (A (i)), .int (iI (z)), .int (iI (y)), .int (iI (w))] (wPre E A n sz g)) (va_Qi (fun r g' => r = iI (if (1 ≤ z ∧ z ≤ 20) ∧ (1 ≤ y ∧ y ≤ z) ∧ 1 ≤ w ∧ w ≤ y then (if y.toNat = z.toNat then 1 else if rkN py z.toNat (z.toNat - y.toNat) ≤ rkY py z.toNat (z.toNat - y.toNat) w.toNat then 1 else 0) else -1) ∧ RkV E A g' (i + 65) py ∧ ∀ j, (j < i + 65 ∨ i + 113 < j) → g' j = g j) (wAt E A n) (wF A n sz)) 0 0 (wF A n sz) := by
  refine x_met (cc := cX10_yes) (maxL := 4) (ret := (some .int)) [.ref (A (i)), .int (iI (z)), .int (iI (y)), .int (iI (w))] (by decide) rfl (Nat.le_of_ble_eq_true rfl) ?_
  intro p_ e_ s_ m_ below meth c_ ls X hr hlk hnm hsz hW hl
  have hl : lv_has ls 4 [(0, .ref (A (i))), (1, .int (iI (z))), (2, .int (iI (y))), (3, .int (iI (w)))] := hl
  have lk_0 : Cond.constantLong RX10 146 (20) ∈ wsX10_yes := by decide +kernel
  have lk_1 : ∀ w ∈ wsX100, w ∈ wsX10_yes := by decide +kernel
  have lk_2 : Cond.fieldLink RX10 49 (TX10 6).1 (TX10 6).2.1 (TX10 6).2.2.1 ∈ wsX10_yes := by decide +kernel
  have hO : g i = .inr (10, [.ref (A (i + 1)), .ref (A (i + 2)), .int (iI ((bk : Int))), .ref (A (i + 3)), .ref (A (i + 12)), .ref (A (i + 54)), .ref (A (i + 65)), .ref (A (i + 114)), .ref (A (i + 123))]) := hO
  have hz1 := hz.1
  have hz2 := hz.2
  have hy1 := hy.1
  have hy2 := hy.2
  have hw1 := hw.1
  have hw2 := hw.2
  obtain ⟨fy, fp, hrc, hrp, hfp, hn3, hn5, hny⟩ := id hK
  have hrk := hrc.1
  refine lv_iload_n X.1 X.2.1 dX10_yes_0 rfl (lv_at hl 1 rfl) ?_
  refine x_i2l X hz dX10_yes_1 ?_
  refine x_lconst X 1 (by decide) dX10_yes_2 ?_
  refine x_ldc2 X (20) (by decide) lk_0 dX10_yes_3 ?_
  refine x_ci (x_runS (k := 3) (As := [.long (lI (z)), .long (lI (1)), .long (lI (20))]) (rest := []) X hW (c_X10_isWithin l E A n _ g (z) (1) (20) ⟨by omega, by omega⟩ ⟨by omega, by omega⟩ ⟨by omega, by omega⟩) gX10_yes_X10_isWithin rfl rfl rfl (by decide +kernel) ⟨by decide, by decide⟩ rfl hl.1 rfl (Nat.le_of_ble_eq_true rfl) dX10_yes_6 ⟨Nat.zero_le _, Nat.zero_le _⟩) hW (fun r_6 g_6 H locs hp_6 hW => ?_)
  obtain ⟨hr_6, he_6⟩ := hp_6
  rw [he_6] at hW
  subst hr_6
  refine x_if_eq (tgt := 34) X ⟨by split <;> decide, by split <;> decide⟩ dX10_yes_9 (by decide) (fun b_9 => ?_) (fun b_9 => ?_)
  · have hs : ¬ (1 ≤ z ∧ z ≤ 20) := fun h => by rw [if_pos h] at b_9; omega
    refine x_iconst X dX10_yes_34 ?_
    exact x_iret X hr hlk hW (⟨by rw [if_neg (by omega)], hK, fun _ _ => rfl⟩) dX10_yes_35
  · have hs : 1 ≤ z ∧ z ≤ 20 := Decidable.byContradiction (fun h => by rw [if_neg h] at b_9; exact b_9 rfl)
    refine lv_iload_n X.1 X.2.1 dX10_yes_12 rfl (lv_at hl 2 rfl) ?_
    refine x_i2l X hy dX10_yes_13 ?_
    refine x_lconst X 1 (by decide) dX10_yes_14 ?_
    refine lv_iload_n X.1 X.2.1 dX10_yes_15 rfl (lv_at hl 1 rfl) ?_
    refine x_i2l X hz dX10_yes_16 ?_
    refine x_ci (x_runS (k := 3) (As := [.long (lI (y)), .long (lI (1)), .long (lI (z))]) (rest := []) X hW (c_X10_isWithin l E A n _ g (y) (1) (z) ⟨by omega, by omega⟩ ⟨by omega, by omega⟩ ⟨by omega, by omega⟩) gX10_yes_X10_isWithin rfl rfl rfl (by decide +kernel) ⟨by decide, by decide⟩ rfl hl.1 rfl (Nat.le_of_ble_eq_true rfl) dX10_yes_17 ⟨Nat.zero_le _, Nat.zero_le _⟩) hW (fun r_17 g_17 H locs hp_17 hW => ?_)
    obtain ⟨hr_17, he_17⟩ := hp_17
    rw [he_17] at hW
    subst hr_17
    refine x_if_eq (tgt := 34) X ⟨by split <;> decide, by split <;> decide⟩ dX10_yes_20 (by decide) (fun b_20 => ?_) (fun b_20 => ?_)
    · have hs2 : ¬ (1 ≤ y ∧ y ≤ z) := fun h => by rw [if_pos h] at b_20; omega
      refine x_iconst X dX10_yes_34 ?_
      exact x_iret X hr hlk hW (⟨by rw [if_neg (by omega)], hK, fun _ _ => rfl⟩) dX10_yes_35
    · have hs2 : 1 ≤ y ∧ y ≤ z := Decidable.byContradiction (fun h => by rw [if_neg h] at b_20; exact b_20 rfl)
      refine lv_iload_n X.1 X.2.1 dX10_yes_23 rfl (lv_at hl 3 rfl) ?_
      refine x_i2l X hw dX10_yes_24 ?_
      refine x_lconst X 1 (by decide) dX10_yes_25 ?_
      refine lv_iload_n X.1 X.2.1 dX10_yes_26 rfl (lv_at hl 2 rfl) ?_
      refine x_i2l X hy dX10_yes_27 ?_
      refine x_ci (x_runS (k := 3) (As := [.long (lI (w)), .long (lI (1)), .long (lI (y))]) (rest := []) X hW (c_X10_isWithin l E A n _ g (w) (1) (y) ⟨by omega, by omega⟩ ⟨by omega, by omega⟩ ⟨by omega, by omega⟩) gX10_yes_X10_isWithin rfl rfl rfl (by decide +kernel) ⟨by decide, by decide⟩ rfl hl.1 rfl (Nat.le_of_ble_eq_true rfl) dX10_yes_28 ⟨Nat.zero_le _, Nat.zero_le _⟩) hW (fun r_28 g_28 H locs hp_28 hW => ?_)
      obtain ⟨hr_28, he_28⟩ := hp_28
      rw [he_28] at hW
      subst hr_28
      refine x_if_ne (tgt := 36) X ⟨by split <;> decide, by split <;> decide⟩ dX10_yes_31 (by decide) (fun b_31 => ?_) (fun b_31 => ?_)
      · have hs3 : 1 ≤ w ∧ w ≤ y := Decidable.byContradiction (fun h => by rw [if_neg h] at b_31; exact b_31 rfl)
        refine lv_aload_n X.1 X.2.1 dX10_yes_36 rfl (lv_at hl 0 rfl) ?_
        refine x_get (C := RX10) (T := TX10) (N := 9) X hW (by omega) hO rfl lk_1 6 (by decide) lk_2 rfl dX10_yes_37 ?_
        refine lv_iload_n X.1 X.2.1 dX10_yes_40 rfl (lv_at hl 1 rfl) ?_
        refine x_seti (((z.toNat : Nat) : Int)) (by omega) ?_
        refine lv_iload_n X.1 X.2.1 dX10_yes_41 rfl (lv_at hl 2 rfl) ?_
        refine x_seti (((y.toNat : Nat) : Int)) (by omega) ?_
        refine lv_iload_n X.1 X.2.1 dX10_yes_42 rfl (lv_at hl 3 rfl) ?_
        refine x_seti (((w.toNat : Nat) : Int)) (by omega) ?_
        refine x_ci (x_runV (k := 3) (As := [.int (iI (((z.toNat : Nat) : Int))), .int (iI (((y.toNat : Nat) : Int))), .int (iI (((w.toNat : Nat) : Int)))]) (rest := []) X hW (c_X7_isTaken l E A n _ g (i + 65) fy fp py z.toNat y.toNat w.toNat (by omega) hrc hrp hfp hn3 hn5 hny (by omega) (by omega) (by omega) (by omega) (by omega) (by omega)) (by omega) hrk rfl gX10_yes_X7_isTaken rfl rfl rfl (by decide +kernel) ⟨by decide, by decide⟩ rfl hl.1 rfl (Nat.le_of_ble_eq_true rfl) dX10_yes_43 ⟨Nat.zero_le _, Nat.zero_le _⟩) hW (fun r_43 g_43 H locs hp_43 hW => ?_)
        obtain ⟨hr9, ⟨k1, k2, k3, k4, k5, k6⟩, hf9⟩ := hp_43
        subst hr9
        have hyo : (if y.toNat = z.toNat then 1 else if rkN py z.toNat (z.toNat - y.toNat) ≤ rkY py z.toNat (z.toNat - y.toNat) w.toNat then 1 else 0) = (0 : Int) ∨ (if y.toNat = z.toNat then 1 else if rkN py z.toNat (z.toNat - y.toNat) ≤ rkY py z.toNat (z.toNat - y.toNat) w.toNat then 1 else 0) = (1 : Int) := yo01 _ _ _ _
        have hyv : I32 (if y.toNat = z.toNat then 1 else if rkN py z.toNat (z.toNat - y.toNat) ≤ rkY py z.toNat (z.toNat - y.toNat) w.toNat then 1 else 0) := by rcases hyo with h | h <;> (rw [h]; exact ⟨by decide, by decide⟩)
        refine x_if_eq (tgt := 53) X hyv dX10_yes_46 (by decide) (fun b_46 => ?_) (fun b_46 => ?_)
        · refine x_iconst X dX10_yes_53 ?_
          exact x_iret X hr hlk hW (⟨by rw [if_pos (show (1 ≤ z ∧ z ≤ 20) ∧ (1 ≤ y ∧ y ≤ z) ∧ 1 ≤ w ∧ w ≤ y by omega)]; rw [b_46], ⟨fy, fp, ⟨k1, k3, hrc.2.2⟩, k2, hfp, k4, k5, k6⟩, fun j hj => hf9 j (by omega)⟩) dX10_yes_54
        · refine x_iconst X dX10_yes_49 ?_
          refine lv_goto (tgt := 54) X.1 X.2.1 dX10_yes_50 (by decide) ?_
          exact x_iret X hr hlk hW (⟨by rw [if_pos (show (1 ≤ z ∧ z ≤ 20) ∧ (1 ≤ y ∧ y ≤ z) ∧ 1 ≤ w ∧ w ≤ y by omega)]; rw [hyo.resolve_left b_46], ⟨fy, fp, ⟨k1, k3, hrc.2.2⟩, k2, hfp, k4, k5, k6⟩, fun j hj => hf9 j (by omega)⟩) dX10_yes_54
      · have hs3 : ¬ (1 ≤ w ∧ w ≤ y) := fun h => by rw [if_pos h] at b_31; omega
        refine x_iconst X dX10_yes_34 ?_
        exact x_iret X hr hlk hW (⟨by rw [if_neg (by omega)], hK, fun _ _ => rfl⟩) dX10_yes_35

set_option maxHeartbeats 4000000 in
set_option maxRecDepth 100000 in
/-- happen -/
theorem c_X10_happen (l : Launch) (E : wE) (A : Nat → Nat) (n sz : Nat) (g : Nat → va_E) (i bk : Nat) (hz : Nat) (ta tb : Nat → Nat) (a b : Int) (hi : i + 209 < n) (hO : g i = kO A i bk) (hH : HapV E A g (i + 114) hz ta tb) (ha : I32 a) (hb : I32 b) : Met l yX10_happen wsX10_happen ({ frames := 6, cells := 0, slots := 0, locals := 300 } : Room) (va_Pc [.ref (A (i)), .int (iI (a)), .int (iI (b))] (wPre E A n sz g)) (va_Qi (fun r g' => r = iI (hpR hz a b) ∧ (0 ≤ hpR hz a b → HapV E A g' (i + 114) (hz + 1) (va_up ta hz a.toNat) (va_up tb hz b.toNat)) ∧ (hpR hz a b < 0 → g' = g) ∧ ∀ j, (j < i + 114 ∨ i + 122 < j) → g' j = g j) (wAt E A n) (wF A n sz)) 0 0 (wF A n sz) := by
  refine x_met (cc := cX10_happen) (maxL := 3) (ret := (some .int)) [.ref (A (i)), .int (iI (a)), .int (iI (b))] (by decide) rfl (Nat.le_of_ble_eq_true rfl) ?_
  intro p_ e_ s_ m_ below meth c_ ls X hr hlk hnm hsz hW hl
  have hl : lv_has ls 3 [(0, .ref (A (i))), (1, .int (iI (a))), (2, .int (iI (b)))] := hl
  have lk_0 : Cond.constantLong RX10 160 (100) ∈ wsX10_happen := by decide +kernel
  have lk_1 : ∀ w ∈ wsX100, w ∈ wsX10_happen := by decide +kernel
  have lk_2 : Cond.fieldLink RX10 56 (TX10 7).1 (TX10 7).2.1 (TX10 7).2.2.1 ∈ wsX10_happen := by decide +kernel
  have hO : g i = .inr (10, [.ref (A (i + 1)), .ref (A (i + 2)), .int (iI ((bk : Int))), .ref (A (i + 3)), .ref (A (i + 12)), .ref (A (i + 54)), .ref (A (i + 65)), .ref (A (i + 114)), .ref (A (i + 123))]) := hO
  have ha1 := ha.1
  have ha2 := ha.2
  have hb1 := hb.1
  have hb2 := hb.2
  have hho := hH.1
  have hz20 : hz ≤ 20 := hH.2.1
  refine lv_iload_n X.1 X.2.1 dX10_happen_0 rfl (lv_at hl 2 rfl) ?_
  refine x_i2l X hb dX10_happen_1 ?_
  refine x_lconst X 1 (by decide) dX10_happen_2 ?_
  refine x_ldc2 X (100) (by decide) lk_0 dX10_happen_3 ?_
  refine x_ci (x_runS (k := 3) (As := [.long (lI (b)), .long (lI (1)), .long (lI (100))]) (rest := []) X hW (c_X10_isWithin l E A n _ g (b) (1) (100) ⟨by omega, by omega⟩ ⟨by omega, by omega⟩ ⟨by omega, by omega⟩) gX10_happen_X10_isWithin rfl rfl rfl (by decide +kernel) ⟨by decide, by decide⟩ rfl hl.1 rfl (Nat.le_of_ble_eq_true rfl) dX10_happen_6 ⟨Nat.zero_le _, Nat.zero_le _⟩) hW (fun r_6 g_6 H locs hp_6 hW => ?_)
  obtain ⟨hr_6, he_6⟩ := hp_6
  rw [he_6] at hW
  subst hr_6
  refine x_if_eq (tgt := 23) X ⟨by split <;> decide, by split <;> decide⟩ dX10_happen_9 (by decide) (fun b_9 => ?_) (fun b_9 => ?_)
  · have hs : ¬ (1 ≤ b ∧ b ≤ 100) := fun h => by rw [if_pos h] at b_9; omega
    refine x_bipush X (by decide) dX10_happen_23 ?_
    exact x_iret X hr hlk hW (⟨by unfold hpR; rw [if_neg (by omega)], fun h => by unfold hpR at h; rw [if_neg (by omega)] at h; omega, fun _ => rfl, fun _ _ => rfl⟩) dX10_happen_25
  · have hs : 1 ≤ b ∧ b ≤ 100 := Decidable.byContradiction (fun h => by rw [if_neg h] at b_9; exact b_9 rfl)
    refine lv_iload_n X.1 X.2.1 dX10_happen_12 rfl (lv_at hl 1 rfl) ?_
    refine x_i2l X ha dX10_happen_13 ?_
    refine x_lconst X 0 (by decide) dX10_happen_14 ?_
    refine lv_iload_n X.1 X.2.1 dX10_happen_15 rfl (lv_at hl 2 rfl) ?_
    refine x_i2l X hb dX10_happen_16 ?_
    refine x_ci (x_runS (k := 3) (As := [.long (lI (a)), .long (lI (0)), .long (lI (b))]) (rest := []) X hW (c_X10_isWithin l E A n _ g (a) (0) (b) ⟨by omega, by omega⟩ ⟨by omega, by omega⟩ ⟨by omega, by omega⟩) gX10_happen_X10_isWithin rfl rfl rfl (by decide +kernel) ⟨by decide, by decide⟩ rfl hl.1 rfl (Nat.le_of_ble_eq_true rfl) dX10_happen_17 ⟨Nat.zero_le _, Nat.zero_le _⟩) hW (fun r_17 g_17 H locs hp_17 hW => ?_)
    obtain ⟨hr_17, he_17⟩ := hp_17
    rw [he_17] at hW
    subst hr_17
    refine x_if_ne (tgt := 26) X ⟨by split <;> decide, by split <;> decide⟩ dX10_happen_20 (by decide) (fun b_20 => ?_) (fun b_20 => ?_)
    · have hs2 : 0 ≤ a ∧ a ≤ b := Decidable.byContradiction (fun h => by rw [if_neg h] at b_20; exact b_20 rfl)
      refine lv_aload_n X.1 X.2.1 dX10_happen_26 rfl (lv_at hl 0 rfl) ?_
      refine x_get (C := RX10) (T := TX10) (N := 9) X hW (by omega) hO rfl lk_1 7 (by decide) lk_2 rfl dX10_happen_27 ?_
      refine lv_iload_n X.1 X.2.1 dX10_happen_30 rfl (lv_at hl 1 rfl) ?_
      refine x_seti (((a.toNat : Nat) : Int)) (by omega) ?_
      refine lv_iload_n X.1 X.2.1 dX10_happen_31 rfl (lv_at hl 2 rfl) ?_
      refine x_seti (((b.toNat : Nat) : Int)) (by omega) ?_
      refine x_ci (x_runV (k := 2) (As := [.int (iI (((a.toNat : Nat) : Int))), .int (iI (((b.toNat : Nat) : Int)))]) (rest := []) X hW (c_X4_join l E A n _ g (i + 114) hz ta tb a.toNat b.toNat (by omega) hH (by omega) (by omega) (by omega)) (by omega) hho rfl gX10_happen_X4_join rfl rfl rfl (by decide +kernel) ⟨by decide, by decide⟩ rfl hl.1 rfl (Nat.le_of_ble_eq_true rfl) dX10_happen_32 ⟨Nat.zero_le _, Nat.zero_le _⟩) hW (fun r_32 g_32 H locs hp_32 hW => ?_)
      obtain ⟨hf8, hls⟩ := hp_32
      have hjr : r_32 = iI (if hz = 20 then -8 else (hz : Int)) := by
        by_cases h9 : hz = 20
        · rw [if_pos h9]; exact (hf8 h9).1
        · rw [if_neg h9]; exact (hls (by have := hH.2.1; omega)).1
      subst hjr
      exact x_iret X hr hlk hW (⟨by unfold hpR; rw [if_pos (show (1 ≤ b ∧ b ≤ 100) ∧ 0 ≤ a ∧ a ≤ b by omega)], fun h => by
      by_cases h9 : hz = 20
      · unfold hpR at h; rw [if_pos (show (1 ≤ b ∧ b ≤ 100) ∧ 0 ≤ a ∧ a ≤ b by omega), if_pos h9] at h; omega
      · exact (hls (by omega)).2.1, fun h => by
      by_cases h9 : hz = 20
      · exact (hf8 h9).2
      · unfold hpR at h; rw [if_pos (show (1 ≤ b ∧ b ≤ 100) ∧ 0 ≤ a ∧ a ≤ b by omega), if_neg h9] at h; omega, fun j hj => by
      by_cases h9 : hz = 20
      · rw [(hf8 h9).2]
      · exact (hls (by omega)).2.2 j (by omega)⟩) dX10_happen_35
    · have hs2 : ¬ (0 ≤ a ∧ a ≤ b) := fun h => by rw [if_pos h] at b_20; omega
      refine x_bipush X (by decide) dX10_happen_23 ?_
      exact x_iret X hr hlk hW (⟨by unfold hpR; rw [if_neg (by omega)], fun h => by unfold hpR at h; rw [if_neg (by omega)] at h; omega, fun _ => rfl, fun _ _ => rfl⟩) dX10_happen_25

set_option maxHeartbeats 4000000 in
set_option maxRecDepth 100000 in
/-- forget -/
theorem c_X10_forget (l : Launch) (E : wE) (A : Nat → Nat) (n sz : Nat) (g : Nat → va_E) (i bk : Nat) (hz : Nat) (ta tb : Nat → Nat) (hi : i + 209 < n) (hO : g i = kO A i bk) (hH : HapV E A g (i + 114) hz ta tb) : Met l yX10_forget wsX10_forget ({ frames := 6, cells := 0, slots := 0, locals := 300 } : Room) (va_Pc [.ref (A (i))] (wPre E A n sz g)) (va_Qi (fun r g' => r = iI (hz : Int) ∧ HapV E A g' (i + 114) 0 ta tb ∧ ∀ j, (j < i + 114 ∨ i + 122 < j) → g' j = g j) (wAt E A n) (wF A n sz)) 0 0 (wF A n sz) := by
  refine x_met (cc := cX10_forget) (maxL := 1) (ret := (some .int)) [.ref (A (i))] (by decide) rfl (Nat.le_of_ble_eq_true rfl) ?_
  intro p_ e_ s_ m_ below meth c_ ls X hr hlk hnm hsz hW hl
  have hl : lv_has ls 1 [(0, .ref (A (i)))] := hl
  have lk_0 : ∀ w ∈ wsX100, w ∈ wsX10_forget := by decide +kernel
  have lk_1 : Cond.fieldLink RX10 56 (TX10 7).1 (TX10 7).2.1 (TX10 7).2.2.1 ∈ wsX10_forget := by decide +kernel
  have hO : g i = .inr (10, [.ref (A (i + 1)), .ref (A (i + 2)), .int (iI ((bk : Int))), .ref (A (i + 3)), .ref (A (i + 12)), .ref (A (i + 54)), .ref (A (i + 65)), .ref (A (i + 114)), .ref (A (i + 123))]) := hO
  have hho := hH.1
  refine lv_aload_n X.1 X.2.1 dX10_forget_0 rfl (lv_at hl 0 rfl) ?_
  refine x_get (C := RX10) (T := TX10) (N := 9) X hW (by omega) hO rfl lk_0 7 (by decide) lk_1 rfl dX10_forget_1 ?_
  refine x_ci (x_runV (k := 0) (As := []) (rest := []) X hW (c_X4_clear l E A n _ g (i + 114) hz ta tb (by omega) hH) (by omega) hho rfl gX10_forget_X4_clear rfl rfl rfl (by decide +kernel) ⟨by decide, by decide⟩ rfl hl.1 rfl (Nat.le_of_ble_eq_true rfl) dX10_forget_4 ⟨Nat.zero_le _, Nat.zero_le _⟩) hW (fun r_4 g_4 H locs hp_4 hW => ?_)
  obtain ⟨hr9, hH2, hf9⟩ := hp_4
  subst hr9
  exact x_iret X hr hlk hW (⟨rfl, hH2, fun j hj => hf9 j (by omega)⟩) dX10_forget_7

set_option maxHeartbeats 4000000 in
set_option maxRecDepth 100000 in
/-- last -/
theorem c_X10_last (l : Launch) (E : wE) (A : Nat → Nat) (n sz : Nat) (g : Nat → va_E) (i bk : Nat) (hz : Nat) (ta tb : Nat → Nat) (hi : i + 209 < n) (hO : g i = kO A i bk) (hH : HapV E A g (i + 114) hz ta tb) (hRX : ResX E A g (i + 3)) : Met l yX10_last wsX10_last ({ frames := 6, cells := 0, slots := 0, locals := 300 } : Room) (va_Pc [.ref (A (i))] (wPre E A n sz g)) (va_Qi (fun r g' => (hz = 0 → r = iI (-1) ∧ g' = g) ∧ (0 < hz → r = iI ((hpS ta tb hz hz : Nat) : Int) ∧ ResV E A g' (i + 3) (rdT ((hpM ta tb hz hz : Nat) : Int) (pr tb hz)) (rdB ((hpM ta tb hz hz : Nat) : Int) (pr tb hz)) ∧ HapV E A g' (i + 114) hz ta tb) ∧ ∀ j, (j < i + 3 ∨ (i + 11 < j ∧ j < i + 114) ∨ i + 122 < j) → g' j = g j) (wAt E A n) (wF A n sz)) 0 0 (wF A n sz) := by
  refine x_met (cc := cX10_last) (maxL := 1) (ret := (some .int)) [.ref (A (i))] (by decide) rfl (Nat.le_of_ble_eq_true rfl) ?_
  intro p_ e_ s_ m_ below meth c_ ls X hr hlk hnm hsz hW hl
  have hl : lv_has ls 1 [(0, .ref (A (i)))] := hl
  have lk_0 : ∀ w ∈ wsX100, w ∈ wsX10_last := by decide +kernel
  have lk_1 : Cond.fieldLink RX10 56 (TX10 7).1 (TX10 7).2.1 (TX10 7).2.2.1 ∈ wsX10_last := by decide +kernel
  have lk_2 : Cond.fieldLink RX10 28 (TX10 3).1 (TX10 3).2.1 (TX10 3).2.2.1 ∈ wsX10_last := by decide +kernel
  have hO : g i = .inr (10, [.ref (A (i + 1)), .ref (A (i + 2)), .int (iI ((bk : Int))), .ref (A (i + 3)), .ref (A (i + 12)), .ref (A (i + 54)), .ref (A (i + 65)), .ref (A (i + 114)), .ref (A (i + 123))]) := hO
  obtain ⟨⟨rz, hr0⟩, _⟩ := id hRX
  have hho := hH.1
  refine lv_aload_n X.1 X.2.1 dX10_last_0 rfl (lv_at hl 0 rfl) ?_
  refine x_get (C := RX10) (T := TX10) (N := 9) X hW (by omega) hO rfl lk_0 7 (by decide) lk_1 rfl dX10_last_1 ?_
  refine lv_aload_n X.1 X.2.1 dX10_last_4 rfl (lv_at hl 0 rfl) ?_
  refine x_get (C := RX10) (T := TX10) (N := 9) X hW (by omega) hO rfl lk_0 3 (by decide) lk_2 rfl dX10_last_5 ?_
  refine x_ci (x_runV (k := 1) (As := [.ref (A (i + 3))]) (rest := []) X hW (c_X4_bestStart l E A n _ g (i + 114) hz ta tb (i + 3) (by omega) hH (by omega) hRX (by omega)) (by omega) hho rfl gX10_last_X4_bestStart rfl rfl rfl (by decide +kernel) ⟨by decide, by decide⟩ rfl hl.1 rfl (Nat.le_of_ble_eq_true rfl) dX10_last_8 ⟨Nat.zero_le _, Nat.zero_le _⟩) hW (fun r_8 g_8 H locs hp_8 hW => ?_)
  obtain ⟨hn0, hn1⟩ := hp_8
  exact x_iret X hr hlk hW (⟨hn0, fun h => ⟨(hn1 h).1, (hn1 h).2.1, (hn1 h).2.2.1⟩, fun j hj => by
    by_cases h9 : hz = 0
    · rw [(hn0 h9).2]
    · exact (hn1 (by omega)).2.2.2 j (by omega)⟩) dX10_last_11
