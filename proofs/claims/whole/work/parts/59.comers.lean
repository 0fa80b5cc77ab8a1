theorem ComV.made {E : wE} {A : Nat → Nat} {g g' : Nat → va_E} {i cz : Nat} {bc tb : Nat → Nat} (h : ComV E A g i cz bc tb) (hf : ∀ j, ((j < i + 20 ∨ i + 41 < j) ∧ j ≠ i + 7 ∧ j ≠ i + 11 ∧ j ≠ i + 13 ∧ j ≠ i + 15) → g' j = g j) (hb : ∃ f : Nat → Int32, g' (i + 7) = aI E 10 f) (hM : ∀ y, y < 11 → NatX E A g' (i + 20 + 2 * y)) (n0 : NatX E A g' (i + 10)) (n2 : NatX E A g' (i + 12)) (n4 : NatX E A g' (i + 14)) : ComV E A g' i cz bc tb := by
  obtain ⟨h0, h1, ⟨f6, a6, b6⟩, _, ⟨f8, a8⟩, ⟨f9, a9, b9⟩, ⟨m1, m2, m3, m4, m5⟩, nk⟩ := h
  exact ⟨(hf _ (by omega)).trans h0, h1.frame (hf _ (by omega)) (hf _ (by omega)), ⟨f6, (hf _ (by omega)).trans a6, b6⟩, hb, ⟨f8, (hf _ (by omega)).trans a8⟩, ⟨f9, (hf _ (by omega)).trans a9, b9⟩, ⟨n0, n2, n4, m4.frame (hf _ (by omega)) (hf _ (by omega)), m5.frame (hf _ (by omega)) (hf _ (by omega))⟩, hM⟩

set_option maxHeartbeats 4000000 in
set_option maxRecDepth 100000 in
/-- size -/
theorem c_X2_size (l : Launch) (E : wE) (A : Nat → Nat) (n sz : Nat) (g : Nat → va_E) (i cz : Nat) (bc : Nat → Nat) (tb : Nat → Nat) (hi : i + 41 < n) (hV : ComV E A g i cz bc tb) : Met l yX2_size wsX2_size ({ frames := 2, cells := 0, slots := 0, locals := 60 } : Room) (va_Pc [.ref (A (i))] (wPre E A n sz g)) (va_Qi (fun r g' => r = iI (cz : Int) ∧ g' = g) (wAt E A n) (wF A n sz)) 0 0 (wF A n sz) := by
  refine x_met (cc := cX2_size) (maxL := 1) (ret := (some .int)) [.ref (A (i))] (by decide) rfl (Nat.le_of_ble_eq_true rfl) ?_
  intro p e s m below meth c ls X hr hlk hnm hsz hW hl
  have hl : lv_has ls 1 [(0, .ref (A (i)))] := hl
  have lk_0 : ∀ w ∈ wsX20, w ∈ wsX2_size := by decide +kernel
  have lk_1 : Cond.fieldLink RX2 12 (TX2 0).1 (TX2 0).2.1 (TX2 0).2.2.1 ∈ wsX2_size := by decide +kernel
  have hVg := hV
  obtain ⟨h0, hC, ⟨f6, h6, hf6⟩, ⟨f7, h7⟩, ⟨f8, h8⟩, ⟨f9, h9, hf9⟩, ⟨n_10, n_12, nT, n_16, n_18⟩, hMx⟩ := hV
  have hc0 := hC.1
  have hz10 : cz ≤ 10 := hC.2.1
  refine lv_aload_n X.1 X.2.1 dX2_size_0 rfl (lv_at hl 0 rfl) ?_
  refine x_get (C := RX2) (T := TX2) (N := 10) X hW (by omega) h0 rfl lk_0 0 (by decide) lk_1 rfl dX2_size_1 ?_
  refine x_ci (x_runV (k := 0) (As := []) (rest := []) X hW (c_X3_size l E A n _ g (i + 1) cz bc (by omega) hC) (by omega) hc0 rfl gX2_size_X3_size rfl rfl rfl (by decide +kernel) ⟨by decide, by decide⟩ rfl hl.1 rfl (Nat.le_of_ble_eq_true rfl) dX2_size_4 ⟨Nat.zero_le _, Nat.zero_le _⟩) hW (fun r_4 g_4 H locs hp_4 hW => ?_)
  obtain ⟨hr_4, he_4⟩ := hp_4
  rw [he_4] at hW
  subst hr_4
  exact x_iret X hr hlk hW (⟨rfl, rfl⟩) dX2_size_7

set_option maxHeartbeats 4000000 in
set_option maxRecDepth 100000 in
/-- clear -/
theorem c_X2_clear (l : Launch) (E : wE) (A : Nat → Nat) (n sz : Nat) (g : Nat → va_E) (i cz : Nat) (bc : Nat → Nat) (tb : Nat → Nat) (hi : i + 41 < n) (hV : ComV E A g i cz bc tb) : Met l yX2_clear wsX2_clear ({ frames := 2, cells := 0, slots := 0, locals := 60 } : Room) (va_Pc [.ref (A (i))] (wPre E A n sz g)) (va_Qi (fun r g' => r = iI (cz : Int) ∧ ComV E A g' i 0 bc tb ∧ ∀ j, j ≠ i + 1 → g' j = g j) (wAt E A n) (wF A n sz)) 0 0 (wF A n sz) := by
  refine x_met (cc := cX2_clear) (maxL := 2) (ret := (some .int)) [.ref (A (i))] (by decide) rfl (Nat.le_of_ble_eq_true rfl) ?_
  intro p e s m below meth c ls X hr hlk hnm hsz hW hl
  have hl : lv_has ls 2 [(0, .ref (A (i)))] := hl
  have lk_0 : ∀ w ∈ wsX20, w ∈ wsX2_clear := by decide +kernel
  have lk_1 : Cond.fieldLink RX2 12 (TX2 0).1 (TX2 0).2.1 (TX2 0).2.2.1 ∈ wsX2_clear := by decide +kernel
  have hVg := hV
  obtain ⟨h0, hC, ⟨f6, h6, hf6⟩, ⟨f7, h7⟩, ⟨f8, h8⟩, ⟨f9, h9, hf9⟩, ⟨n_10, n_12, nT, n_16, n_18⟩, hMx⟩ := hV
  have hc0 := hC.1
  have hz10 : cz ≤ 10 := hC.2.1
  refine lv_aload_n X.1 X.2.1 dX2_clear_0 rfl (lv_at hl 0 rfl) ?_
  refine x_get (C := RX2) (T := TX2) (N := 10) X hW (by omega) h0 rfl lk_0 0 (by decide) lk_1 rfl dX2_clear_1 ?_
  refine x_ci (x_runV (k := 0) (As := []) (rest := []) X hW (c_X3_size l E A n _ g (i + 1) cz bc (by omega) hC) (by omega) hc0 rfl gX2_clear_X3_size rfl rfl rfl (by decide +kernel) ⟨by decide, by decide⟩ rfl hl.1 rfl (Nat.le_of_ble_eq_true rfl) dX2_clear_4 ⟨Nat.zero_le _, Nat.zero_le _⟩) hW (fun r_4 g_4 H locs hp_4 hW => ?_)
  obtain ⟨hr_4, he_4⟩ := hp_4
  rw [he_4] at hW
  subst hr_4
  refine lv_istore_n (lv' := [(1, .int (iI ((cz : Int)))), (0, .ref (A (i)))]) X.1 X.2.1 dX2_clear_7 rfl hl (by decide) rfl (fun ls hl => ?_)
  refine lv_aload_n X.1 X.2.1 dX2_clear_8 rfl (lv_at hl 1 rfl) ?_
  refine x_get (C := RX2) (T := TX2) (N := 10) X hW (by omega) h0 rfl lk_0 0 (by decide) lk_1 rfl dX2_clear_9 ?_
  refine x_cv (x_runV (k := 0) (As := []) (rest := []) X hW (c_X3_clear l E A n _ g (i + 1) cz bc (by omega) hC) (by omega) hc0 rfl gX2_clear_X3_clear rfl rfl rfl (by decide +kernel) ⟨by decide, by decide⟩ rfl hl.1 rfl (Nat.le_of_ble_eq_true rfl) dX2_clear_12 ⟨Nat.zero_le _, Nat.zero_le _⟩) hW (fun g_12 H locs hp_12 hW => ?_)
  obtain ⟨hC2, hf_12⟩ := hp_12
  refine lv_iload_n X.1 X.2.1 dX2_clear_15 rfl (lv_at hl 0 rfl) ?_
  exact x_iret X hr hlk hW (⟨rfl, ⟨(hf_12 _ (by omega)).trans h0, hC2, ⟨f6, (hf_12 _ (by omega)).trans h6, fun k hk => absurd hk (Nat.not_lt_zero _)⟩, ⟨f7, (hf_12 _ (by omega)).trans h7⟩, ⟨f8, (hf_12 _ (by omega)).trans h8⟩, ⟨f9, (hf_12 _ (by omega)).trans h9, hf9⟩, ⟨n_10.frame (hf_12 _ (by omega)) (hf_12 _ (by omega)), n_12.frame (hf_12 _ (by omega)) (hf_12 _ (by omega)), nT.frame (hf_12 _ (by omega)) (hf_12 _ (by omega)), n_16.frame (hf_12 _ (by omega)) (hf_12 _ (by omega)), n_18.frame (hf_12 _ (by omega)) (hf_12 _ (by omega))⟩, fun k hk => (hMx k hk).frame (hf_12 _ (by omega)) (hf_12 _ (by omega))⟩, hf_12⟩) dX2_clear_16

set_option maxHeartbeats 4000000 in
set_option maxRecDepth 100000 in
/-- join -/
theorem c_X2_join (l : Launch) (E : wE) (A : Nat → Nat) (n sz : Nat) (g : Nat → va_E) (i cz : Nat) (bc : Nat → Nat) (tb : Nat → Nat) (b0 : Nat) (fs : List Value) (hi : i + 41 < n) (hV : ComV E A g i cz bc tb) (hb0 : b0 < n) (hB0 : g b0 = .inr (0, fs)) (hb1 : b0 < i ∨ i + 41 < b0) : Met l yX2_join wsX2_join ({ frames := 2, cells := 0, slots := 0, locals := 60 } : Room) (va_Pc [.ref (A (i)), .ref (A (b0))] (wPre E A n sz g)) (va_Qi (fun r g' => (cz = 10 → r = iI (-8) ∧ g' = g) ∧ (cz < 10 → r = iI (cz : Int) ∧ ComV E A g' i (cz + 1) (va_up bc cz b0) (va_up tb cz 0) ∧ ∀ j, (j ≠ i + 1 ∧ j ≠ i + 5 ∧ j ≠ i + 6) → g' j = g j)) (wAt E A n) (wF A n sz)) 0 0 (wF A n sz) := by
  refine x_met (cc := cX2_join) (maxL := 3) (ret := (some .int)) [.ref (A (i)), .ref (A (b0))] (by decide) rfl (Nat.le_of_ble_eq_true rfl) ?_
  intro p e s m below meth c ls X hr hlk hnm hsz hW hl
  have hl : lv_has ls 3 [(0, .ref (A (i))), (1, .ref (A (b0)))] := hl
  have lk_0 : ∀ w ∈ wsX20, w ∈ wsX2_join := by decide +kernel
  have lk_1 : Cond.fieldLink RX2 12 (TX2 0).1 (TX2 0).2.1 (TX2 0).2.2.1 ∈ wsX2_join := by decide +kernel
  have lk_2 : Cond.fieldLink RX2 18 (TX2 1).1 (TX2 1).2.1 (TX2 1).2.2.1 ∈ wsX2_join := by decide +kernel
  have hVg := hV
  obtain ⟨h0, hC, ⟨f6, h6, hf6⟩, ⟨f7, h7⟩, ⟨f8, h8⟩, ⟨f9, h9, hf9⟩, ⟨n_10, n_12, nT, n_16, n_18⟩, hMx⟩ := hV
  have hc0 := hC.1
  have hz10 : cz ≤ 10 := hC.2.1
  refine lv_aload_n X.1 X.2.1 dX2_join_0 rfl (lv_at hl 0 rfl) ?_
  refine x_get (C := RX2) (T := TX2) (N := 10) X hW (by omega) h0 rfl lk_0 0 (by decide) lk_1 rfl dX2_join_1 ?_
  refine x_ci (x_runV (k := 0) (As := []) (rest := []) X hW (c_X3_size l E A n _ g (i + 1) cz bc (by omega) hC) (by omega) hc0 rfl gX2_join_X3_size rfl rfl rfl (by decide +kernel) ⟨by decide, by decide⟩ rfl hl.1 rfl (Nat.le_of_ble_eq_true rfl) dX2_join_4 ⟨Nat.zero_le _, Nat.zero_le _⟩) hW (fun r_4 g_4 H locs hp_4 hW => ?_)
  obtain ⟨hr_4, he_4⟩ := hp_4
  rw [he_4] at hW
  subst hr_4
  refine lv_istore_n (lv' := [(2, .int (iI ((cz : Int)))), (0, .ref (A (i))), (1, .ref (A (b0)))]) X.1 X.2.1 dX2_join_7 rfl hl (by decide) rfl (fun ls hl => ?_)
  refine lv_iload_n X.1 X.2.1 dX2_join_8 rfl (lv_at hl 0 rfl) ?_
  refine x_bipush X (by decide) dX2_join_9 ?_
  refine x_icmp_lt (tgt := 17) X ⟨by omega, by omega⟩ ⟨by decide, by decide⟩ dX2_join_11 (by decide) (fun b_11 => ?_) (fun b_11 => ?_)
  · refine lv_aload_n X.1 X.2.1 dX2_join_17 rfl (lv_at hl 1 rfl) ?_
    refine x_get (C := RX2) (T := TX2) (N := 10) X hW (by omega) h0 rfl lk_0 0 (by decide) lk_1 rfl dX2_join_18 ?_
    refine lv_aload_n X.1 X.2.1 dX2_join_21 rfl (lv_at hl 2 rfl) ?_
    refine x_cv (x_runV (k := 1) (As := [.ref (A (b0))]) (rest := []) X hW (c_X3_join l E A n _ g (i + 1) cz bc b0 fs (by omega) hC (by omega) hb0 hB0 (by omega)) (by omega) hc0 rfl gX2_join_X3_join rfl rfl rfl (by decide +kernel) ⟨by decide, by decide⟩ rfl hl.1 rfl (Nat.le_of_ble_eq_true rfl) dX2_join_22 ⟨Nat.zero_le _, Nat.zero_le _⟩) hW (fun g_22 H locs hp_22 hW => ?_)
    obtain ⟨hC2, hf_22⟩ := hp_22
    have h0 : g_22 i = .inr (2, [.ref (A (i + 1)), .ref (A (i + 6)), .ref (A (i + 7)), .ref (A (i + 8)), .ref (A (i + 9)), .ref (A (i + 10)), .ref (A (i + 12)), .ref (A (i + 14)), .ref (A (i + 16)), .ref (A (i + 18))]) := by rw [hf_22 _ (by omega) (by omega)]; exact h0
    have h6 : g_22 (i + 6) = aI E 10 f6 := by rw [hf_22 _ (by omega) (by omega)]; exact h6
    have h7 : g_22 (i + 7) = aI E 10 f7 := by rw [hf_22 _ (by omega) (by omega)]; exact h7
    have h8 : g_22 (i + 8) = aI E 10 f8 := by rw [hf_22 _ (by omega) (by omega)]; exact h8
    have h9 : g_22 (i + 9) = aR E 3 11 f9 := by rw [hf_22 _ (by omega) (by omega)]; exact h9
    refine lv_aload_n X.1 X.2.1 dX2_join_25 rfl (lv_at hl 1 rfl) ?_
    refine x_get (C := RX2) (T := TX2) (N := 10) X hW (by omega) h0 rfl lk_0 1 (by decide) lk_2 rfl dX2_join_26 ?_
    refine lv_iload_n X.1 X.2.1 dX2_join_29 rfl (lv_at hl 0 rfl) ?_
    refine x_iconst X dX2_join_30 ?_
    refine x_seti (((0 : Nat) : Int)) rfl ?_
    refine x_iast X hW (by omega) h6 cz (by omega) (by omega) (by decide) dX2_join_31 (fun g_31 H locs hg_31 hW => ?_)
    have h0 : g_31 i = .inr (2, [.ref (A (i + 1)), .ref (A (i + 6)), .ref (A (i + 7)), .ref (A (i + 8)), .ref (A (i + 9)), .ref (A (i + 10)), .ref (A (i + 12)), .ref (A (i + 14)), .ref (A (i + 16)), .ref (A (i + 18))]) := by rw [hg_31, va_up_ne _ _ (by omega)]; exact h0
    have h7 : g_31 (i + 7) = aI E 10 f7 := by rw [hg_31, va_up_ne _ _ (by omega)]; exact h7
    have h8 : g_31 (i + 8) = aI E 10 f8 := by rw [hg_31, va_up_ne _ _ (by omega)]; exact h8
    have h9 : g_31 (i + 9) = aR E 3 11 f9 := by rw [hg_31, va_up_ne _ _ (by omega)]; exact h9
    have h6 : g_31 (i + 6) = aI E 10 (upd f6 cz (iI (((0 : Nat) : Int)))) := by rw [hg_31]; exact va_up_self _ _ _
    have hq9 : ∀ j, (j ≠ i + 1 ∧ j ≠ i + 5 ∧ j ≠ i + 6) → g_31 j = g j := fun j hj => by rw [hg_31, va_up_ne _ _ (by omega)]; exact hf_22 j (by omega) (by omega)
    refine lv_iload_n X.1 X.2.1 dX2_join_32 rfl (lv_at hl 0 rfl) ?_
    exact x_iret X hr hlk hW (⟨fun h => absurd b_11 (by omega), fun _ => ⟨rfl, ⟨h0, hC2.frame (by rw [hg_31, va_up_ne _ _ (by omega)]) (by rw [hg_31, va_up_ne _ _ (by omega)]), ⟨_, h6, fun k hk => by
        by_cases e : k = cz
        · rw [e, pk_us, va_up_self]
        · rw [pk_un e, va_up_ne _ _ e]; exact hf6 k (by omega)⟩, ⟨f7, h7⟩, ⟨f8, h8⟩, ⟨f9, h9, hf9⟩, ⟨n_10.frame (hq9 _ (by omega)) (hq9 _ (by omega)), n_12.frame (hq9 _ (by omega)) (hq9 _ (by omega)), nT.frame (hq9 _ (by omega)) (hq9 _ (by omega)), n_16.frame (hq9 _ (by omega)) (hq9 _ (by omega)), n_18.frame (hq9 _ (by omega)) (hq9 _ (by omega))⟩, fun k hk => (hMx k hk).frame (hq9 _ (by omega)) (hq9 _ (by omega))⟩, hq9⟩⟩) dX2_join_33
  · refine x_bipush X (by decide) dX2_join_14 ?_
    exact x_iret X hr hlk hW (⟨fun _ => ⟨rfl, rfl⟩, fun h => absurd b_11 (by omega)⟩) dX2_join_16

set_option maxHeartbeats 4000000 in
set_option maxRecDepth 100000 in
/-- setBar -/
theorem c_X2_setBar (l : Launch) (E : wE) (A : Nat → Nat) (n sz : Nat) (g : Nat → va_E) (i cz : Nat) (bc : Nat → Nat) (tb : Nat → Nat) (t b : Nat) (hi : i + 41 < n) (hV : ComV E A g i cz bc tb) (ht : t < cz) (hb : b ≤ 1001) : Met l yX2_setBar wsX2_setBar ({ frames := 2, cells := 0, slots := 0, locals := 60 } : Room) (va_Pc [.ref (A (i)), .int (iI ((t : Int))), .int (iI ((b : Int)))] (wPre E A n sz g)) (va_Qv (fun g' => ComV E A g' i cz bc (va_up tb t b) ∧ ∀ j, j ≠ i + 6 → g' j = g j) (wAt E A n) (wF A n sz)) 0 0 (wF A n sz) := by
  refine x_met (cc := cX2_setBar) (maxL := 3) (ret := none) [.ref (A (i)), .int (iI ((t : Int))), .int (iI ((b : Int)))] (by decide) rfl (Nat.le_of_ble_eq_true rfl) ?_
  intro p e s m below meth c ls X hr hlk hnm hsz hW hl
  have hl : lv_has ls 3 [(0, .ref (A (i))), (1, .int (iI ((t : Int)))), (2, .int (iI ((b : Int))))] := hl
  have lk_0 : Cond.constantLong RX2 62 (9) ∈ wsX2_setBar := by decide +kernel
  have lk_1 : Cond.initialized yX10_isWithin.cls ∈ wsX2_setBar := by decide +kernel
  have lk_2 : Cond.static yX10_isWithin ∈ wsX2_setBar := by decide +kernel
  have lk_3 : ∀ w ∈ wsX20, w ∈ wsX2_setBar := by decide +kernel
  have lk_4 : Cond.fieldLink RX2 18 (TX2 1).1 (TX2 1).2.1 (TX2 1).2.2.1 ∈ wsX2_setBar := by decide +kernel
  have hVg := hV
  obtain ⟨h0, hC, ⟨f6, h6, hf6⟩, ⟨f7, h7⟩, ⟨f8, h8⟩, ⟨f9, h9, hf9⟩, ⟨n_10, n_12, nT, n_16, n_18⟩, hMx⟩ := hV
  have hc0 := hC.1
  have hz10 : cz ≤ 10 := hC.2.1
  refine lv_iload_n X.1 X.2.1 dX2_setBar_0 rfl (lv_at hl 1 rfl) ?_
  refine x_i2l X ⟨by omega, by omega⟩ dX2_setBar_1 ?_
  refine x_lconst X 0 (by decide) dX2_setBar_2 ?_
  refine x_ldc2 X (9) (by decide) lk_0 dX2_setBar_3 ?_
  refine x_ci (x_runSN (k := 3) (As := [.long (lI ((t : Int))), .long (lI (0)), .long (lI (9))]) (rest := []) X hW (c_X10_isWithin l E A n _ g (t : Int) 0 9 ⟨by omega, by omega⟩ I64_0 ⟨by decide, by decide⟩) gX2_setBar_X10_isWithin_n64 rfl rfl rfl (by decide +kernel) lk_1 lk_2 (by decide +kernel) ⟨by decide, by decide⟩ rfl hl.1 rfl (Nat.le_of_ble_eq_true rfl) dX2_setBar_6 ⟨Nat.zero_le _, Nat.zero_le _⟩) hW (fun r_6 g_6 H locs hp_6 hW => ?_)
  obtain ⟨hr_6, he_6⟩ := hp_6
  rw [he_6] at hW
  subst hr_6
  refine x_if_eq (tgt := 19) X ⟨by split <;> decide, by split <;> decide⟩ dX2_setBar_9 (by decide) (fun b_9 => ?_) (fun b_9 => ?_)
  · exact absurd b_9 (by rw [if_pos ⟨by omega, by omega⟩]; decide)
  · refine lv_aload_n X.1 X.2.1 dX2_setBar_12 rfl (lv_at hl 0 rfl) ?_
    refine x_get (C := RX2) (T := TX2) (N := 10) X hW (by omega) h0 rfl lk_3 1 (by decide) lk_4 rfl dX2_setBar_13 ?_
    refine lv_iload_n X.1 X.2.1 dX2_setBar_16 rfl (lv_at hl 1 rfl) ?_
    refine lv_iload_n X.1 X.2.1 dX2_setBar_17 rfl (lv_at hl 2 rfl) ?_
    refine x_iast X hW (by omega) h6 t (by omega) (by omega) (by decide) dX2_setBar_18 (fun g_18 H locs hg_18 hW => ?_)
    have h0 : g_18 i = .inr (2, [.ref (A (i + 1)), .ref (A (i + 6)), .ref (A (i + 7)), .ref (A (i + 8)), .ref (A (i + 9)), .ref (A (i + 10)), .ref (A (i + 12)), .ref (A (i + 14)), .ref (A (i + 16)), .ref (A (i + 18))]) := by rw [hg_18, va_up_ne _ _ (by omega)]; exact h0
    have hc0 : g_18 (i + 1) = .inr (3, [.ref (A (i + 1 + 1)), .ref (A (i + 1 + 4)), .int (iI ((cz : Int)))]) := by rw [hg_18, va_up_ne _ _ (by omega)]; exact hc0
    have h7 : g_18 (i + 7) = aI E 10 f7 := by rw [hg_18, va_up_ne _ _ (by omega)]; exact h7
    have h8 : g_18 (i + 8) = aI E 10 f8 := by rw [hg_18, va_up_ne _ _ (by omega)]; exact h8
    have h9 : g_18 (i + 9) = aR E 3 11 f9 := by rw [hg_18, va_up_ne _ _ (by omega)]; exact h9
    have h6 : g_18 (i + 6) = aI E 10 (upd f6 t (iI ((b : Int)))) := by rw [hg_18]; exact va_up_self _ _ _
    have hq9 : ∀ j, j ≠ i + 6 → g_18 j = g j := fun j hj => by rw [hg_18, va_up_ne _ _ (by omega)]
    exact x_vret X hr hlk hW (⟨⟨h0, hC.frame (hq9 _ (by omega)) (hq9 _ (by omega)), ⟨_, h6, fun k hk => by
        by_cases e : k = t
        · rw [e, pk_us, va_up_self]
        · rw [pk_un e, va_up_ne _ _ e]; exact hf6 k hk⟩, ⟨f7, h7⟩, ⟨f8, h8⟩, ⟨f9, h9, hf9⟩, ⟨n_10.frame (hq9 _ (by omega)) (hq9 _ (by omega)), n_12.frame (hq9 _ (by omega)) (hq9 _ (by omega)), nT.frame (hq9 _ (by omega)) (hq9 _ (by omega)), n_16.frame (hq9 _ (by omega)) (hq9 _ (by omega)), n_18.frame (hq9 _ (by omega)) (hq9 _ (by omega))⟩, fun k hk => (hMx k hk).frame (hq9 _ (by omega)) (hq9 _ (by omega))⟩, hq9⟩) dX2_setBar_19

set_option maxHeartbeats 4000000 in
set_option maxRecDepth 100000 in
/-- followTold -/
theorem c_X2_followTold (l : Launch) (E : wE) (A : Nat → Nat) (n sz : Nat) (g : Nat → va_E) (i cz : Nat) (bc : Nat → Nat) (tb : Nat → Nat) (Lk : Nat → List (Nat × Nat)) (rc : Nat) (hi : i + 41 < n) (hV : ComV E A g i cz bc tb) (hB : BksV E A g n cz bc Lk) (hdb : ∀ k, k < cz → i + 41 < bc k ∨ bc k + 2 < i) (hbr : ∀ k, k < cz → tb k ≤ 1001) (htp : ∀ k, k < cz → 0 < bE (Lk k) (fun _ => 1)) (hrc : rc + 8 < n) (hRX : ResX E A g rc) (hdr : rc + 8 < i ∨ i + 41 < rc) (hdb2 : ∀ k, k < cz → rc + 8 < bc k ∨ bc k + 2 < rc) : Met l yX2_followTold wsX2_followTold ({ frames := 6, cells := 0, slots := 0, locals := 300 } : Room) (va_Pc [.ref (A (i)), .ref (A (rc))] (wPre E A n sz g)) (va_Qv (fun g' => ResV E A g' rc (rdT ((foM Lk tb cz cz : Nat) : Int) (pr (fun k => bE (Lk k) (fun _ => 1)) cz)) (rdB ((foM Lk tb cz cz : Nat) : Int) (pr (fun k => bE (Lk k) (fun _ => 1)) cz)) ∧ ComV E A g' i cz bc tb ∧ ∀ j, ((j < i ∨ i + 41 < j) ∧ (j < rc ∨ rc + 8 < j)) → g' j = g j) (wAt E A n) (wF A n sz)) 0 0 (wF A n sz) := by
  refine x_met (cc := cX2_followTold) (maxL := 2) (ret := none) [.ref (A (i)), .ref (A (rc))] (by decide) rfl (Nat.le_of_ble_eq_true rfl) ?_
  intro p e s m below meth c ls X hr hlk hnm hsz hW hl
  have hl : lv_has ls 2 [(0, .ref (A (i))), (1, .ref (A (rc)))] := hl
  have lk_0 : ∀ w ∈ wsX20, w ∈ wsX2_followTold := by decide +kernel
  have lk_1 : Cond.fieldLink RX2 18 (TX2 1).1 (TX2 1).2.1 (TX2 1).2.2.1 ∈ wsX2_followTold := by decide +kernel
  have lk_2 : Cond.fieldLink RX2 12 (TX2 0).1 (TX2 0).2.1 (TX2 0).2.2.1 ∈ wsX2_followTold := by decide +kernel
  have lk_3 : Cond.fieldLink RX2 35 (TX2 5).1 (TX2 5).2.1 (TX2 5).2.2.1 ∈ wsX2_followTold := by decide +kernel
  have hVg := hV
  obtain ⟨h0, hC, ⟨f6, h6, hf6⟩, ⟨f7, h7⟩, ⟨f8, h8⟩, ⟨f9, h9, hf9⟩, ⟨n_10, n_12, nT, n_16, n_18⟩, hMx⟩ := hV
  have hc0 := hC.1
  have hz10 : cz ≤ 10 := hC.2.1
  refine lv_aload_n X.1 X.2.1 dX2_followTold_0 rfl (lv_at hl 0 rfl) ?_
  refine lv_aload_n X.1 X.2.1 dX2_followTold_1 rfl (lv_at hl 0 rfl) ?_
  refine x_get (C := RX2) (T := TX2) (N := 10) X hW (by omega) h0 rfl lk_0 1 (by decide) lk_1 rfl dX2_followTold_2 ?_
  refine x_cv (x_runV (k := 1) (As := [.ref (A (i + 6))]) (rest := []) X hW (c_X2_follow l E A n _ g i cz bc Lk (i + 6) f6 tb hi h0 hC hB hdb (by omega) (Or.inl rfl) h6 (fun k hk => ⟨hbr k hk, hf6 k hk⟩) n_10 n_12) (by omega) h0 rfl gX2_followTold_X2_follow rfl rfl rfl (by decide +kernel) ⟨by decide, by decide⟩ rfl hl.1 rfl (Nat.le_of_ble_eq_true rfl) dX2_followTold_5 ⟨Nat.zero_le _, Nat.zero_le _⟩) hW (fun g_5 H locs hp_5 hW => ?_)
  obtain ⟨nM, nA, hf_5⟩ := hp_5
  have hV2 : ComV E A g_5 i cz bc tb := hVg.made (fun j hj => hf_5 j (by omega)) ⟨f7, (hf_5 _ (by omega)).trans h7⟩ (fun y hy => (hMx y hy).frame (hf_5 _ (by omega)) (hf_5 _ (by omega))) nM.any nA.any (nT.frame (hf_5 _ (by omega)) (hf_5 _ (by omega)))
  have hC := hC.frame (hf_5 _ (by omega)) (hf_5 _ (by omega))
  have hB : BksV E A g_5 n cz bc Lk := hB.frame (fun k hk => by have := hdb k hk; exact ⟨hf_5 _ (by omega), hf_5 _ (by omega), hf_5 _ (by omega)⟩)
  have hRX := hRX.frame (fun j h1 h2 => hf_5 j (by omega))
  have h0 : g_5 i = .inr (2, [.ref (A (i + 1)), .ref (A (i + 6)), .ref (A (i + 7)), .ref (A (i + 8)), .ref (A (i + 9)), .ref (A (i + 10)), .ref (A (i + 12)), .ref (A (i + 14)), .ref (A (i + 16)), .ref (A (i + 18))]) := by rw [hf_5 _ (by omega)]; exact h0
  have hc0 : g_5 (i + 1) = .inr (3, [.ref (A (i + 1 + 1)), .ref (A (i + 1 + 4)), .int (iI ((cz : Int)))]) := by rw [hf_5 _ (by omega)]; exact hc0
  have h6 : g_5 (i + 6) = aI E 10 f6 := by rw [hf_5 _ (by omega)]; exact h6
  have h7 : g_5 (i + 7) = aI E 10 f7 := by rw [hf_5 _ (by omega)]; exact h7
  have h8 : g_5 (i + 8) = aI E 10 f8 := by rw [hf_5 _ (by omega)]; exact h8
  have h9 : g_5 (i + 9) = aR E 3 11 f9 := by rw [hf_5 _ (by omega)]; exact h9
  refine lv_aload_n X.1 X.2.1 dX2_followTold_8 rfl (lv_at hl 0 rfl) ?_
  refine x_get (C := RX2) (T := TX2) (N := 10) X hW (by omega) h0 rfl lk_0 0 (by decide) lk_2 rfl dX2_followTold_9 ?_
  refine lv_aload_n X.1 X.2.1 dX2_followTold_12 rfl (lv_at hl 0 rfl) ?_
  refine x_get (C := RX2) (T := TX2) (N := 10) X hW (by omega) h0 rfl lk_0 5 (by decide) lk_3 rfl dX2_followTold_13 ?_
  refine lv_aload_n X.1 X.2.1 dX2_followTold_16 rfl (lv_at hl 1 rfl) ?_
  refine x_cv (x_runV (k := 2) (As := [.ref (A (i + 10)), .ref (A (rc))]) (rest := []) X hW (c_X3_divide l E A n _ g_5 (i + 1) cz bc Lk (i + 10) rc (foM Lk tb cz cz) (by omega) hC hB htp (by omega) hrc nM hRX (by omega) (by omega) hdb2) (by omega) hc0 rfl gX2_followTold_X3_divide rfl rfl rfl (by decide +kernel) ⟨by decide, by decide⟩ rfl hl.1 rfl (Nat.le_of_ble_eq_true rfl) dX2_followTold_17 ⟨Nat.zero_le _, Nat.zero_le _⟩) hW (fun g_17 H locs hp_17 hW => ?_)
  obtain ⟨hRv, hf_17⟩ := hp_17
  have hV3 : ComV E A g_17 i cz bc tb := hV2.frame (fun j h1 h2 => hf_17 j (by omega))
  have hfz : ∀ j, ((j < i ∨ i + 41 < j) ∧ (j < rc ∨ rc + 8 < j)) → g_17 j = g j := fun j hj => (hf_17 j hj.2).trans (hf_5 j (by omega))
  exact x_vret X hr hlk hW (⟨hRv, hV3, hfz⟩) dX2_followTold_20

set_option maxHeartbeats 4000000 in
set_option maxRecDepth 100000 in
/-- chooseUpTo -/
theorem c_X2_chooseUpTo (l : Launch) (E : wE) (A : Nat → Nat) (n sz : Nat) (g : Nat → va_E) (i cz : Nat) (bc : Nat → Nat) (tb : Nat → Nat) (Lk : Nat → List (Nat × Nat)) (rc K : Nat) (hi : i + 41 < n) (hV : ComV E A g i cz bc tb) (hB : BksV E A g n cz bc Lk) (hdb : ∀ k, k < cz → i + 41 < bc k ∨ bc k + 2 < i) (htp : ∀ k, k < cz → 0 < bE (Lk k) (fun _ => 1)) (hrc : rc + 8 < n) (hRX : ResX E A g rc) (hdr : rc + 8 < i ∨ i + 41 < rc) (hdb2 : ∀ k, k < cz → rc + 8 < bc k ∨ bc k + 2 < rc) (hK : K ≤ 10) : Met l yX2_chooseUpTo wsX2_chooseUpTo ({ frames := 6, cells := 0, slots := 0, locals := 300 } : Room) (va_Pc [.ref (A (i)), .int (iI ((K : Int))), .ref (A (rc))] (wPre E A n sz g)) (va_Qv (fun g' => ResV E A g' rc (rdT ((chN Lk cz K cz K : Nat) : Int) (pr (fun k => bE (Lk k) (fun _ => 1)) cz)) (rdB ((chN Lk cz K cz K : Nat) : Int) (pr (fun k => bE (Lk k) (fun _ => 1)) cz)) ∧ ComV E A g' i cz bc tb ∧ ∀ j, ((j < i ∨ i + 41 < j) ∧ (j < rc ∨ rc + 8 < j)) → g' j = g j) (wAt E A n) (wF A n sz)) 0 0 (wF A n sz) := by
  refine x_met (cc := cX2_chooseUpTo) (maxL := 3) (ret := none) [.ref (A (i)), .int (iI ((K : Int))), .ref (A (rc))] (by decide) rfl (Nat.le_of_ble_eq_true rfl) ?_
  intro p e s m below meth c ls X hr hlk hnm hsz hW hl
  have hl : lv_has ls 3 [(0, .ref (A (i))), (1, .int (iI ((K : Int)))), (2, .ref (A (rc)))] := hl
  have lk_0 : ∀ w ∈ wsX20, w ∈ wsX2_chooseUpTo := by decide +kernel
  have lk_1 : Cond.fieldLink RX2 12 (TX2 0).1 (TX2 0).2.1 (TX2 0).2.2.1 ∈ wsX2_chooseUpTo := by decide +kernel
  have lk_2 : Cond.fieldLink RX2 30 (TX2 4).1 (TX2 4).2.1 (TX2 4).2.2.1 ∈ wsX2_chooseUpTo := by decide +kernel
  have lk_3 : Cond.constantLong RX2 113 (10) ∈ wsX2_chooseUpTo := by decide +kernel
  have lk_4 : Cond.initialized yX10_isWithin.cls ∈ wsX2_chooseUpTo := by decide +kernel
  have lk_5 : Cond.static yX10_isWithin ∈ wsX2_chooseUpTo := by decide +kernel
  have hVg := hV
  obtain ⟨h0, hC, ⟨f6, h6, hf6⟩, ⟨f7, h7⟩, ⟨f8, h8⟩, ⟨f9, h9, hf9⟩, ⟨n_10, n_12, nT, n_16, n_18⟩, hMx⟩ := hV
  have hc0 := hC.1
  have hz10 : cz ≤ 10 := hC.2.1
  refine lv_aload_n X.1 X.2.1 dX2_chooseUpTo_0 rfl (lv_at hl 0 rfl) ?_
  refine lv_iload_n X.1 X.2.1 dX2_chooseUpTo_1 rfl (lv_at hl 1 rfl) ?_
  refine x_cv (x_runV (k := 1) (As := [.int (iI ((K : Int)))]) (rest := []) X hW (c_X2_choose l E A n _ g i cz bc Lk K f9 f7 hi h0 hC hB hdb h9 hf9 h7 n_12 nT hMx (by omega)) (by omega) h0 rfl gX2_chooseUpTo_X2_choose rfl rfl rfl (by decide +kernel) ⟨by decide, by decide⟩ rfl hl.1 rfl (Nat.le_of_ble_eq_true rfl) dX2_chooseUpTo_2 ⟨Nat.zero_le _, Nat.zero_le _⟩) hW (fun g_2 H locs hp_2 hW => ?_)
  obtain ⟨hM, nA, nT2, ⟨b7, hb7, hLB⟩, hf_2⟩ := hp_2
  have hV2 : ComV E A g_2 i cz bc tb := hVg.made (fun j hj => hf_2 j (by omega)) ⟨b7, hb7⟩ (fun y hy => (hM y hy).any) (n_10.frame (hf_2 _ (by omega)) (hf_2 _ (by omega))) nA.any nT2
  have hC := hC.frame (hf_2 _ (by omega)) (hf_2 _ (by omega))
  have hB : BksV E A g_2 n cz bc Lk := hB.frame (fun k hk => by have := hdb k hk; exact ⟨hf_2 _ (by omega), hf_2 _ (by omega), hf_2 _ (by omega)⟩)
  have hRX := hRX.frame (fun j h1 h2 => hf_2 j (by omega))
  have h0 : g_2 i = .inr (2, [.ref (A (i + 1)), .ref (A (i + 6)), .ref (A (i + 7)), .ref (A (i + 8)), .ref (A (i + 9)), .ref (A (i + 10)), .ref (A (i + 12)), .ref (A (i + 14)), .ref (A (i + 16)), .ref (A (i + 18))]) := by rw [hf_2 _ (by omega)]; exact h0
  have hc0 : g_2 (i + 1) = .inr (3, [.ref (A (i + 1 + 1)), .ref (A (i + 1 + 4)), .int (iI ((cz : Int)))]) := by rw [hf_2 _ (by omega)]; exact hc0
  have h9 : g_2 (i + 9) = aR E 3 11 f9 := by rw [hf_2 _ (by omega)]; exact h9
  refine lv_aload_n X.1 X.2.1 dX2_chooseUpTo_5 rfl (lv_at hl 0 rfl) ?_
  refine x_get (C := RX2) (T := TX2) (N := 10) X hW (by omega) h0 rfl lk_0 0 (by decide) lk_1 rfl dX2_chooseUpTo_6 ?_
  refine lv_aload_n X.1 X.2.1 dX2_chooseUpTo_9 rfl (lv_at hl 0 rfl) ?_
  refine x_get (C := RX2) (T := TX2) (N := 10) X hW (by omega) h0 rfl lk_0 4 (by decide) lk_2 rfl dX2_chooseUpTo_10 ?_
  refine lv_iload_n X.1 X.2.1 dX2_chooseUpTo_13 rfl (lv_at hl 1 rfl) ?_
  refine x_i2l X ⟨by omega, by omega⟩ dX2_chooseUpTo_14 ?_
  refine x_lconst X 0 (by decide) dX2_chooseUpTo_15 ?_
  refine x_ldc2 X (10) (by decide) lk_3 dX2_chooseUpTo_16 ?_
  refine x_ci (x_runSN (k := 3) (As := [.long (lI ((K : Int))), .long (lI (0)), .long (lI (10))]) (rest := [.ref (A (i + 9)), .ref (A (i + 1))]) X hW (c_X10_isWithin l E A n _ g_2 (K : Int) 0 10 ⟨by omega, by omega⟩ I64_0 ⟨by decide, by decide⟩) gX2_chooseUpTo_X10_isWithin_n64 rfl rfl rfl (by decide +kernel) lk_4 lk_5 (by decide +kernel) ⟨by decide, by decide⟩ rfl hl.1 rfl (Nat.le_of_ble_eq_true rfl) dX2_chooseUpTo_19 ⟨Nat.zero_le _, Nat.zero_le _⟩) hW (fun r_19 g_19 H locs hp_19 hW => ?_)
  obtain ⟨hr_19, he_19⟩ := hp_19
  rw [he_19] at hW
  subst hr_19
  refine x_if_eq (tgt := 29) X ⟨by split <;> decide, by split <;> decide⟩ dX2_chooseUpTo_22 (by decide) (fun b_22 => ?_) (fun b_22 => ?_)
  · exact absurd b_22 (by rw [if_pos ⟨by omega, by omega⟩]; decide)
  · refine lv_iload_n X.1 X.2.1 dX2_chooseUpTo_25 rfl (lv_at hl 1 rfl) ?_
    refine lv_goto (tgt := 30) X.1 X.2.1 dX2_chooseUpTo_26 (by decide) ?_
    refine x_aald X hW (by omega) h9 rfl (j := i + 20 + 2 * K) K (by omega) (by omega) (by decide) (hf9 K (by omega)) dX2_chooseUpTo_30 ?_
    refine lv_aload_n X.1 X.2.1 dX2_chooseUpTo_31 rfl (lv_at hl 2 rfl) ?_
    refine x_cv (x_runV (k := 2) (As := [.ref (A (i + 20 + 2 * K)), .ref (A (rc))]) (rest := []) X hW (c_X3_divide l E A n _ g_2 (i + 1) cz bc Lk (i + 20 + 2 * K) rc (chN Lk cz K cz K) (by omega) hC hB htp (by omega) hrc (hM K (by omega)) hRX (by omega) (by omega) hdb2) (by omega) hc0 rfl gX2_chooseUpTo_X3_divide rfl rfl rfl (by decide +kernel) ⟨by decide, by decide⟩ rfl hl.1 rfl (Nat.le_of_ble_eq_true rfl) dX2_chooseUpTo_32 ⟨Nat.zero_le _, Nat.zero_le _⟩) hW (fun g_32 H locs hp_32 hW => ?_)
    obtain ⟨hRv, hf_32⟩ := hp_32
    have hV3 : ComV E A g_32 i cz bc tb := hV2.frame (fun j h1 h2 => hf_32 j (by omega))
    have hfz : ∀ j, ((j < i ∨ i + 41 < j) ∧ (j < rc ∨ rc + 8 < j)) → g_32 j = g j := fun j hj => (hf_32 j hj.2).trans (hf_2 j (by omega))
    exact x_vret X hr hlk hW (⟨hRv, hV3, hfz⟩) dX2_chooseUpTo_35

set_option maxHeartbeats 4000000 in
set_option maxRecDepth 100000 in
/-- bestBar -/
theorem c_X2_bestBar (l : Launch) (E : wE) (A : Nat → Nat) (n sz : Nat) (g : Nat → va_E) (i cz : Nat) (bc : Nat → Nat) (tb : Nat → Nat) (Lk : Nat → List (Nat × Nat)) (t : Nat) (hi : i + 41 < n) (hV : ComV E A g i cz bc tb) (hB : BksV E A g n cz bc Lk) (hdb : ∀ k, k < cz → i + 41 < bc k ∨ bc k + 2 < i) (ht : t < cz) : Met l yX2_bestBar wsX2_bestBar ({ frames := 6, cells := 0, slots := 0, locals := 300 } : Room) (va_Pc [.ref (A (i)), .int (iI ((t : Int)))] (wPre E A n sz g)) (va_Qi (fun r g' => (∃ b : Nat, r = iI (b : Int) ∧ LB (Lk t) 0 (foA Lk cz (cz - 1 - t)) (chN Lk cz 1 (cz - 1 - t) 1) b) ∧ ComV E A g' i cz bc tb ∧ ∀ j, (j < i ∨ i + 41 < j) → g' j = g j) (wAt E A n) (wF A n sz)) 0 0 (wF A n sz) := by
  refine x_met (cc := cX2_bestBar) (maxL := 2) (ret := (some .int)) [.ref (A (i)), .int (iI ((t : Int)))] (by decide) rfl (Nat.le_of_ble_eq_true rfl) ?_
  intro p e s m below meth c ls X hr hlk hnm hsz hW hl
  have hl : lv_has ls 2 [(0, .ref (A (i))), (1, .int (iI ((t : Int))))] := hl
  have lk_0 : Cond.constantLong RX2 62 (9) ∈ wsX2_bestBar := by decide +kernel
  have lk_1 : Cond.initialized yX10_isWithin.cls ∈ wsX2_bestBar := by decide +kernel
  have lk_2 : Cond.static yX10_isWithin ∈ wsX2_bestBar := by decide +kernel
  have lk_3 : ∀ w ∈ wsX20, w ∈ wsX2_bestBar := by decide +kernel
  have lk_4 : Cond.fieldLink RX2 22 (TX2 2).1 (TX2 2).2.1 (TX2 2).2.2.1 ∈ wsX2_bestBar := by decide +kernel
  have hVg := hV
  obtain ⟨h0, hC, ⟨f6, h6, hf6⟩, ⟨f7, h7⟩, ⟨f8, h8⟩, ⟨f9, h9, hf9⟩, ⟨n_10, n_12, nT, n_16, n_18⟩, hMx⟩ := hV
  have hc0 := hC.1
  have hz10 : cz ≤ 10 := hC.2.1
  refine lv_aload_n X.1 X.2.1 dX2_bestBar_0 rfl (lv_at hl 0 rfl) ?_
  refine x_iconst X dX2_bestBar_1 ?_
  refine x_cv (x_runV (k := 1) (As := [.int (iI (1))]) (rest := []) X hW (c_X2_choose l E A n _ g i cz bc Lk 1 f9 f7 hi h0 hC hB hdb h9 hf9 h7 n_12 nT hMx (by omega)) (by omega) h0 rfl gX2_bestBar_X2_choose rfl rfl rfl (by decide +kernel) ⟨by decide, by decide⟩ rfl hl.1 rfl (Nat.le_of_ble_eq_true rfl) dX2_bestBar_2 ⟨Nat.zero_le _, Nat.zero_le _⟩) hW (fun g_2 H locs hp_2 hW => ?_)
  obtain ⟨hM, nA, nT2, ⟨b7, hb7, hLB⟩, hf_2⟩ := hp_2
  have hV2 : ComV E A g_2 i cz bc tb := hVg.made (fun j hj => hf_2 j (by omega)) ⟨b7, hb7⟩ (fun y hy => (hM y hy).any) (n_10.frame (hf_2 _ (by omega)) (hf_2 _ (by omega))) nA.any nT2
  have hC := hC.frame (hf_2 _ (by omega)) (hf_2 _ (by omega))
  have hB : BksV E A g_2 n cz bc Lk := hB.frame (fun k hk => by have := hdb k hk; exact ⟨hf_2 _ (by omega), hf_2 _ (by omega), hf_2 _ (by omega)⟩)
  have h0 : g_2 i = .inr (2, [.ref (A (i + 1)), .ref (A (i + 6)), .ref (A (i + 7)), .ref (A (i + 8)), .ref (A (i + 9)), .ref (A (i + 10)), .ref (A (i + 12)), .ref (A (i + 14)), .ref (A (i + 16)), .ref (A (i + 18))]) := by rw [hf_2 _ (by omega)]; exact h0
  have hc0 : g_2 (i + 1) = .inr (3, [.ref (A (i + 1 + 1)), .ref (A (i + 1 + 4)), .int (iI ((cz : Int)))]) := by rw [hf_2 _ (by omega)]; exact hc0
  have h9 : g_2 (i + 9) = aR E 3 11 f9 := by rw [hf_2 _ (by omega)]; exact h9
  refine lv_iload_n X.1 X.2.1 dX2_bestBar_5 rfl (lv_at hl 1 rfl) ?_
  refine x_i2l X ⟨by omega, by omega⟩ dX2_bestBar_6 ?_
  refine x_lconst X 0 (by decide) dX2_bestBar_7 ?_
  refine x_ldc2 X (9) (by decide) lk_0 dX2_bestBar_8 ?_
  refine x_ci (x_runSN (k := 3) (As := [.long (lI ((t : Int))), .long (lI (0)), .long (lI (9))]) (rest := []) X hW (c_X10_isWithin l E A n _ g_2 (t : Int) 0 9 ⟨by omega, by omega⟩ I64_0 ⟨by decide, by decide⟩) gX2_bestBar_X10_isWithin_n64 rfl rfl rfl (by decide +kernel) lk_1 lk_2 (by decide +kernel) ⟨by decide, by decide⟩ rfl hl.1 rfl (Nat.le_of_ble_eq_true rfl) dX2_bestBar_11 ⟨Nat.zero_le _, Nat.zero_le _⟩) hW (fun r_11 g_11 H locs hp_11 hW => ?_)
  obtain ⟨hr_11, he_11⟩ := hp_11
  rw [he_11] at hW
  subst hr_11
  refine x_if_eq (tgt := 26) X ⟨by split <;> decide, by split <;> decide⟩ dX2_bestBar_14 (by decide) (fun b_14 => ?_) (fun b_14 => ?_)
  · exact absurd b_14 (by rw [if_pos ⟨by omega, by omega⟩]; decide)
  · obtain ⟨b, hbt, hLBt⟩ := hLB (by omega) t ht
    refine lv_aload_n X.1 X.2.1 dX2_bestBar_17 rfl (lv_at hl 0 rfl) ?_
    refine x_get (C := RX2) (T := TX2) (N := 10) X hW (by omega) h0 rfl lk_3 2 (by decide) lk_4 rfl dX2_bestBar_18 ?_
    refine lv_iload_n X.1 X.2.1 dX2_bestBar_21 rfl (lv_at hl 1 rfl) ?_
    refine x_iald X hW (by omega) hb7 (v := iI ((b : Int))) t (by omega) (by omega) (by decide) hbt dX2_bestBar_22 ?_
    refine lv_goto (tgt := 27) X.1 X.2.1 dX2_bestBar_23 (by decide) ?_
    exact x_iret X hr hlk hW (⟨⟨b, rfl, hLBt⟩, hV2, fun j hj => hf_2 j (by omega)⟩) dX2_bestBar_27
