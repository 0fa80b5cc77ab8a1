set_option maxHeartbeats 4000000 in
set_option maxRecDepth 100000 in
/-- sign -/
theorem c_X11_sign (l : Launch) (E : wE) (A : Nat → Nat) (n sz : Nat) (g : Nat → va_E) (i : Nat) (q : Nat → Int) (N : Nat → Int) (hi : i + 16 < n) (hO : g i = mO A i q) (hN : MN E A g i N) : Met l yX11_sign wsX11_sign ({ frames := 2, cells := 0, slots := 0, locals := 100 } : Room) (va_Pc [.ref (A (i))] (wPre E A n sz g)) (va_Qi (fun r g' => r = iI (N 0).sign ∧ g' = g) (wAt E A n) (wF A n sz)) 0 0 (wF A n sz) := by
  refine x_met (cc := cX11_sign) (maxL := 1) (ret := (some .int)) [.ref (A (i))] (by decide) rfl (Nat.le_of_ble_eq_true rfl) ?_
  intro p e s m below meth c ls X hr hlk hnm hsz hW hl
  have hl : lv_has ls 1 [(0, .ref (A (i)))] := hl
  have lk_0 : ∀ w ∈ wsX110, w ∈ wsX11_sign := by decide +kernel
  have lk_1 : Cond.fieldLink RX11 10 (TX11 0).1 (TX11 0).2.1 (TX11 0).2.2.1 ∈ wsX11_sign := by decide +kernel
  have hO : g i = .inr (11, [.ref (A (i + 1)), .ref (A (i + 2)), .ref (A (i + 3)), .ref (A (i + 4)), .int (iI (q 0)), .ref (A (i + 5)), .ref (A (i + 6)), .ref (A (i + 7)), .ref (A (i + 8)), .int (iI (q 1)), .ref (A (i + 9)), .ref (A (i + 10)), .ref (A (i + 11)), .int (iI (q 2)), .ref (A (i + 12)), .ref (A (i + 13)), .int (iI (q 3)), .ref (A (i + 14)), .ref (A (i + 15)), .ref (A (i + 16)), .int (iI (q 4))]) := hO
  refine lv_aload_n X.1 X.2.1 dX11_sign_0 rfl (lv_at hl 0 rfl) ?_
  refine x_iconst X dX11_sign_1 ?_
  refine x_ci (x_runV (k := 1) (As := [.int (iI (0))]) (rest := []) X hW (c_X11_isZero l E A n _ g i 0 q N hi hO (by omega) hN) (by omega) hO rfl gX11_sign_X11_isZero rfl rfl rfl (by decide +kernel) ⟨by decide, by decide⟩ rfl hl.1 rfl (Nat.le_of_ble_eq_true rfl) dX11_sign_2 ⟨Nat.zero_le _, Nat.zero_le _⟩) hW (fun r_2 g_2 H locs hp_2 hW => ?_)
  obtain ⟨hr_2, he_2⟩ := hp_2
  rw [he_2] at hW
  subst hr_2
  refine x_if_eq (tgt := 12) X ⟨by split <;> decide, by split <;> decide⟩ dX11_sign_5 (by decide) (fun b_5 => ?_) (fun b_5 => ?_)
  · have hz : ¬ N 0 = 0 := fun z9 => by rw [if_pos z9] at b_5; omega
    obtain ⟨nf, h1, hNv⟩ := hN
    have hlt0 := lm_top (hNv 0 (by omega)).1 (hNv 0 (by omega)).2.1
    refine lv_aload_n X.1 X.2.1 dX11_sign_12 rfl (lv_at hl 0 rfl) ?_
    refine x_get (C := RX11) (T := TX11) (N := 21) X hW (by omega) hO rfl lk_0 0 (by decide) lk_1 rfl dX11_sign_13 ?_
    refine x_bipush X (by decide) dX11_sign_16 ?_
    refine x_lald X hW (by omega) h1 (v := lI (lm (N 0) 9)) (10 * 0 + 9) (by omega) (by omega) (by decide) ((hNv 0 (by omega)).2.2 9 (by omega)) dX11_sign_18 ?_
    refine x_lconst X 0 (by decide) dX11_sign_19 ?_
    refine x_lcmp_ge (tgt := 28) X hlt0.2 I64_0 dX11_sign_20 dX11_sign_21 (by decide) (fun b_20 => ?_) (fun b_20 => ?_)
    · have hs0 : ¬ N 0 < 0 := fun z9 => by have := hlt0.1.mpr z9; omega
      have hs : 0 < N 0 := by omega
      refine x_iconst X dX11_sign_28 ?_
      exact x_iret X hr hlk hW (⟨by rw [Int.sign_eq_one_of_pos hs], rfl⟩) dX11_sign_29
    · have hs : N 0 < 0 := hlt0.1.mp (by omega)
      refine x_iconst X dX11_sign_24 ?_
      refine lv_goto (tgt := 29) X.1 X.2.1 dX11_sign_25 (by decide) ?_
      exact x_iret X hr hlk hW (⟨by rw [Int.sign_eq_neg_one_of_neg hs], rfl⟩) dX11_sign_29
  · have hz : N 0 = 0 := Decidable.byContradiction (fun z9 => b_5 (if_neg z9))
    refine x_iconst X dX11_sign_8 ?_
    refine lv_goto (tgt := 29) X.1 X.2.1 dX11_sign_9 (by decide) ?_
    exact x_iret X hr hlk hW (⟨by rw [hz]; rfl, rfl⟩) dX11_sign_29

set_option maxHeartbeats 4000000 in
set_option maxRecDepth 100000 in
/-- bare -/
theorem c_X11_bare (l : Launch) (E : wE) (A : Nat → Nat) (n sz : Nat) (g : Nat → va_E) (i : Nat) (q : Nat → Int) (N : Nat → Int) (hi : i + 16 < n) (hO : g i = mO A i q) (hN : MN E A g i N) : Met l yX11_bare wsX11_bare ({ frames := 4, cells := 0, slots := 0, locals := 140 } : Room) (va_Pc [.ref (A (i))] (wPre E A n sz g)) (va_Qv (fun g' => (∃ N' : Nat → Int, MN E A g' i N' ∧ N' 2 = (((N 0).natAbs : Nat) : Int) ∧ ∀ x, x ≠ 2 → N' x = N x) ∧ ∀ j, j ≠ i + 1 → g' j = g j) (wAt E A n) (wF A n sz)) 0 0 (wF A n sz) := by
  refine x_met (cc := cX11_bare) (maxL := 1) (ret := none) [.ref (A (i))] (by decide) rfl (Nat.le_of_ble_eq_true rfl) ?_
  intro p e s m below meth c ls X hr hlk hnm hsz hW hl
  have hl : lv_has ls 1 [(0, .ref (A (i)))] := hl
  have lk_0 : Cond.constantLong RX11 91 (-1) ∈ wsX11_bare := by decide +kernel
  have hO : g i = .inr (11, [.ref (A (i + 1)), .ref (A (i + 2)), .ref (A (i + 3)), .ref (A (i + 4)), .int (iI (q 0)), .ref (A (i + 5)), .ref (A (i + 6)), .ref (A (i + 7)), .ref (A (i + 8)), .int (iI (q 1)), .ref (A (i + 9)), .ref (A (i + 10)), .ref (A (i + 11)), .int (iI (q 2)), .ref (A (i + 12)), .ref (A (i + 13)), .int (iI (q 3)), .ref (A (i + 14)), .ref (A (i + 15)), .ref (A (i + 16)), .int (iI (q 4))]) := hO
  have hb0 := MN_at hN (a := 0) (by omega)
  refine lv_aload_n X.1 X.2.1 dX11_bare_0 rfl (lv_at hl 0 rfl) ?_
  refine x_iconst X dX11_bare_1 ?_
  refine x_iconst X dX11_bare_2 ?_
  refine x_cv (x_runV (k := 2) (As := [.int (iI (2)), .int (iI (0))]) (rest := []) X hW (c_X11_copy l E A n _ g i 2 0 q N hi hO (by omega) (by omega) (by omega) hN) (by omega) hO rfl gX11_bare_X11_copy rfl rfl rfl (by decide +kernel) ⟨by decide, by decide⟩ rfl hl.1 rfl (Nat.le_of_ble_eq_true rfl) dX11_bare_3 ⟨Nat.zero_le _, Nat.zero_le _⟩) hW (fun g_3 H locs hp_3 hW => ?_)
  obtain ⟨hN, hf_3⟩ := hp_3
  obtain ⟨N_3, hN_3⟩ : ∃ N9 : Nat → Int, N9 = va_up N 2 (N 0) := ⟨_, rfl⟩
  rw [← hN_3] at hN
  have hO : g_3 i = .inr (11, [.ref (A (i + 1)), .ref (A (i + 2)), .ref (A (i + 3)), .ref (A (i + 4)), .int (iI (q 0)), .ref (A (i + 5)), .ref (A (i + 6)), .ref (A (i + 7)), .ref (A (i + 8)), .int (iI (q 1)), .ref (A (i + 9)), .ref (A (i + 10)), .ref (A (i + 11)), .int (iI (q 2)), .ref (A (i + 12)), .ref (A (i + 13)), .int (iI (q 3)), .ref (A (i + 14)), .ref (A (i + 15)), .ref (A (i + 16)), .int (iI (q 4))]) := by rw [hf_3 _ (by omega)]; exact hO
  have v_2 : N_3 2 = N 0 := by rw [hN_3, va_up_self]
  have v0 : N_3 0 = N 0 := by rw [hN_3, va_up_ne _ _ (by omega)]
  have hsl := sg_le (N 0)
  refine lv_aload_n X.1 X.2.1 dX11_bare_6 rfl (lv_at hl 0 rfl) ?_
  refine x_ci (x_runV (k := 0) (As := []) (rest := []) X hW (c_X11_sign l E A n _ g_3 i q N_3 hi hO hN) (by omega) hO rfl gX11_bare_X11_sign rfl rfl rfl (by decide +kernel) ⟨by decide, by decide⟩ rfl hl.1 rfl (Nat.le_of_ble_eq_true rfl) dX11_bare_7 ⟨Nat.zero_le _, Nat.zero_le _⟩) hW (fun r_7 g_7 H locs hp_7 hW => ?_)
  obtain ⟨hr_7, he_7⟩ := hp_7
  rw [he_7] at hW
  subst hr_7
  rw [v0]
  refine x_seti ((N 0).sign) rfl ?_
  refine x_if_ge (tgt := 21) X ⟨by omega, by omega⟩ dX11_bare_10 (by decide) (fun b_10 => ?_) (fun b_10 => ?_)
  · have hs : ¬ N 0 < 0 := fun z9 => by rw [Int.sign_eq_neg_one_of_neg z9] at b_10; omega
    exact x_vret X hr hlk hW (⟨⟨N_3, hN, by rw [v_2]; omega, fun x hx => by rw [hN_3, va_up_ne _ _ hx]⟩, hf_3⟩) dX11_bare_21
  · have hs : N 0 < 0 := Decidable.byContradiction (fun z9 => b_10 (Int.sign_nonneg_iff.mpr (by omega)))
    refine lv_aload_n X.1 X.2.1 dX11_bare_13 rfl (lv_at hl 0 rfl) ?_
    refine x_iconst X dX11_bare_14 ?_
    refine x_ldc2 X (-1) (by decide) lk_0 dX11_bare_15 ?_
    refine x_cv (x_runV (k := 2) (As := [.int (iI (2)), .long (lI ((-1)))]) (rest := []) X hW (c_X11_times l E A n _ g_3 i 2 q N_3 (-1) hi hO (by omega) hN (by decide) (by decide) (by rw [v_2]; omega) (by rw [v_2]; omega)) (by omega) hO rfl gX11_bare_X11_times rfl rfl rfl (by decide +kernel) ⟨by decide, by decide⟩ rfl hl.1 rfl (Nat.le_of_ble_eq_true rfl) dX11_bare_18 ⟨Nat.zero_le _, Nat.zero_le _⟩) hW (fun g_18 H locs hp_18 hW => ?_)
    obtain ⟨hN, hf_18⟩ := hp_18
    obtain ⟨N_18, hN_18⟩ : ∃ N9 : Nat → Int, N9 = va_up N_3 2 (N_3 2 * -1) := ⟨_, rfl⟩
    rw [← hN_18] at hN
    have hO : g_18 i = .inr (11, [.ref (A (i + 1)), .ref (A (i + 2)), .ref (A (i + 3)), .ref (A (i + 4)), .int (iI (q 0)), .ref (A (i + 5)), .ref (A (i + 6)), .ref (A (i + 7)), .ref (A (i + 8)), .int (iI (q 1)), .ref (A (i + 9)), .ref (A (i + 10)), .ref (A (i + 11)), .int (iI (q 2)), .ref (A (i + 12)), .ref (A (i + 13)), .int (iI (q 3)), .ref (A (i + 14)), .ref (A (i + 15)), .ref (A (i + 16)), .int (iI (q 4))]) := by rw [hf_18 _ (by omega)]; exact hO
    have v_2 : N_18 2 = N 0 * -1 := by rw [hN_18, va_up_self, v_2]
    exact x_vret X hr hlk hW (⟨⟨N_18, hN, by rw [v_2]; omega, fun x hx => by rw [hN_18, va_up_ne _ _ hx, hN_3, va_up_ne _ _ hx]⟩, fun j hj => (hf_18 j hj).trans (hf_3 j hj)⟩) dX11_bare_21
