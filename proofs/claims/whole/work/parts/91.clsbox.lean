/-! ===== the class: boxes, the result, count ===== -/

set_option maxHeartbeats 4000000 in
set_option maxRecDepth 100000 in
/-- box -/
theorem c_X10_box (l : Launch) (E : wE) (A : Nat → Nat) (n sz : Nat) (g : Nat → va_E) (i bk : Nat) (L : Nat → List (Nat × Nat)) (xz : Nat) (bx px : Nat → Nat) (P : Nat → Int) (Q od : Nat → Nat) (z p9 : Int) (hi : i + 209 < n) (hO : g i = kO A i bk) (hB : KB E A g i bk L) (hX : BoxV E A g (i + 123) xz (bcl i bx) px P Q od) (hz : I32 z) (hp9 : I32 p9) : Met l yX10_box wsX10_box ({ frames := 7, cells := 0, slots := 0, locals := 300 } : Room) (va_Pc [.ref (A (i)), .int (iI (z)), .int (iI (p9))] (wPre E A n sz g)) (va_Qi (fun r g' => r = iI (bxR bk xz z p9) ∧ (0 ≤ bxR bk xz z p9 → ∃ (P0 : Int) (Q0 : Nat) (od' : Nat → Nat), FairV (L z.toNat) ((p9.toNat * bE (L z.toNat) (fun _ => 1) : Nat) : Int) P0 Q0 ∧ BoxV E A g' (i + 123) (xz + 1) (bcl i (va_up bx xz z.toNat)) (va_up px xz p9.toNat) (va_up P xz P0) (va_up Q xz Q0) od') ∧ (bxR bk xz z p9 < 0 → g' = g) ∧ ∀ j, (j < i + 123 ∨ i + 141 < j) → g' j = g j) (wAt E A n) (wF A n sz)) 0 0 (wF A n sz) := by
  refine x_met (cc := cX10_box) (maxL := 3) (ret := (some .int)) [.ref (A (i)), .int (iI (z)), .int (iI (p9))] (by decide) rfl (Nat.le_of_ble_eq_true rfl) ?_
  intro p_ e_ s_ m_ below meth c_ ls X hr hlk hnm hsz hW hl
  have hl : lv_has ls 3 [(0, .ref (A (i))), (1, .int (iI (z))), (2, .int (iI (p9)))] := hl
  have lk_0 : Cond.constantLong RX10 148 (1000) ∈ wsX10_box := by decide +kernel
  have lk_1 : ∀ w ∈ wsX100, w ∈ wsX10_box := by decide +kernel
  have lk_2 : Cond.fieldLink RX10 63 (TX10 8).1 (TX10 8).2.1 (TX10 8).2.2.1 ∈ wsX10_box := by decide +kernel
  have lk_3 : Cond.fieldLink RX10 17 (TX10 1).1 (TX10 1).2.1 (TX10 1).2.2.1 ∈ wsX10_box := by decide +kernel
  have hO : g i = .inr (10, [.ref (A (i + 1)), .ref (A (i + 2)), .int (iI ((bk : Int))), .ref (A (i + 3)), .ref (A (i + 12)), .ref (A (i + 54)), .ref (A (i + 65)), .ref (A (i + 114)), .ref (A (i + 123))]) := hO
  have hz1 := hz.1
  have hz2 := hz.2
  have hp91 := hp9.1
  have hp92 := hp9.2
  obtain ⟨⟨f2, h2, hf2⟩, hbk, hbv, hbx⟩ := id hB
  have hbo9 := hX.1
  have hx6 : xz ≤ 6 := hX.2.2.1
  refine lv_aload_n X.1 X.2.1 dX10_box_0 rfl (lv_at hl 0 rfl) ?_
  refine lv_iload_n X.1 X.2.1 dX10_box_1 rfl (lv_at hl 1 rfl) ?_
  refine x_ci (x_runV (k := 1) (As := [.int (iI (z))]) (rest := []) X hW (c_X10_isBook l E A n _ g i bk z hi hO hbk hz) (by omega) hO rfl gX10_box_X10_isBook rfl rfl rfl (by decide +kernel) ⟨by decide, by decide⟩ rfl hl.1 rfl (Nat.le_of_ble_eq_true rfl) dX10_box_2 ⟨Nat.zero_le _, Nat.zero_le _⟩) hW (fun r_2 g_2 H locs hp_2 hW => ?_)
  obtain ⟨hr_2, he_2⟩ := hp_2
  rw [he_2] at hW
  subst hr_2
  refine x_if_eq (tgt := 20) X ⟨by split <;> decide, by split <;> decide⟩ dX10_box_5 (by decide) (fun b_5 => ?_) (fun b_5 => ?_)
  · have hs : ¬ (0 ≤ z ∧ z ≤ (bk : Int) - 1) := fun h => by rw [if_pos h] at b_5; omega
    refine x_bipush X (by decide) dX10_box_20 ?_
    exact x_iret X hr hlk hW (⟨by unfold bxR; rw [if_neg (by omega)], fun h => by unfold bxR at h; rw [if_neg (by omega)] at h; omega, fun _ => rfl, fun _ _ => rfl⟩) dX10_box_22
  · have hs : 0 ≤ z ∧ z ≤ (bk : Int) - 1 := Decidable.byContradiction (fun h => by rw [if_neg h] at b_5; exact b_5 rfl)
    refine lv_iload_n X.1 X.2.1 dX10_box_8 rfl (lv_at hl 2 rfl) ?_
    refine x_i2l X hp9 dX10_box_9 ?_
    refine x_lconst X 0 (by decide) dX10_box_10 ?_
    refine x_ldc2 X (1000) (by decide) lk_0 dX10_box_11 ?_
    refine x_ci (x_runS (k := 3) (As := [.long (lI (p9)), .long (lI (0)), .long (lI (1000))]) (rest := []) X hW (c_X10_isWithin l E A n _ g (p9) (0) (1000) ⟨by omega, by omega⟩ ⟨by omega, by omega⟩ ⟨by omega, by omega⟩) gX10_box_X10_isWithin rfl rfl rfl (by decide +kernel) ⟨by decide, by decide⟩ rfl hl.1 rfl (Nat.le_of_ble_eq_true rfl) dX10_box_14 ⟨Nat.zero_le _, Nat.zero_le _⟩) hW (fun r_14 g_14 H locs hp_14 hW => ?_)
    obtain ⟨hr_14, he_14⟩ := hp_14
    rw [he_14] at hW
    subst hr_14
    refine x_if_ne (tgt := 23) X ⟨by split <;> decide, by split <;> decide⟩ dX10_box_17 (by decide) (fun b_17 => ?_) (fun b_17 => ?_)
    · have hs2 : 0 ≤ p9 ∧ p9 ≤ 1000 := Decidable.byContradiction (fun h => by rw [if_neg h] at b_17; exact b_17 rfl)
      refine lv_aload_n X.1 X.2.1 dX10_box_23 rfl (lv_at hl 0 rfl) ?_
      refine x_get (C := RX10) (T := TX10) (N := 9) X hW (by omega) hO rfl lk_1 8 (by decide) lk_2 rfl dX10_box_24 ?_
      refine lv_aload_n X.1 X.2.1 dX10_box_27 rfl (lv_at hl 0 rfl) ?_
      refine x_get (C := RX10) (T := TX10) (N := 9) X hW (by omega) hO rfl lk_1 1 (by decide) lk_3 rfl dX10_box_28 ?_
      refine lv_iload_n X.1 X.2.1 dX10_box_31 rfl (lv_at hl 1 rfl) ?_
      refine x_aald X hW (by omega) h2 rfl (j := i + 162 + 3 * z.toNat) z.toNat (by omega) (by omega) (by decide) (hf2 z.toNat (by omega)) dX10_box_32 ?_
      refine lv_iload_n X.1 X.2.1 dX10_box_33 rfl (lv_at hl 2 rfl) ?_
      refine x_seti (((p9.toNat : Nat) : Int)) (by omega) ?_
      refine x_ci (x_runV (k := 2) (As := [.ref (A (i + 162 + 3 * z.toNat)), .int (iI (((p9.toNat : Nat) : Int)))]) (rest := []) X hW (c_X1_join l E A n _ g (i + 123) xz (bcl i bx) px P Q od (i + 162 + 3 * z.toNat) p9.toNat (L z.toNat) (by omega) hX (by omega) (hbv z.toNat (by omega)).1 (by omega) (by omega) (hbv z.toNat (by omega)).2) (by omega) hbo9 rfl gX10_box_X1_join rfl rfl rfl (by decide +kernel) ⟨by decide, by decide⟩ rfl hl.1 rfl (Nat.le_of_ble_eq_true rfl) dX10_box_34 ⟨Nat.zero_le _, Nat.zero_le _⟩) hW (fun r_34 g_34 H locs hp_34 hW => ?_)
      obtain ⟨hf8, hls⟩ := hp_34
      have hjr : r_34 = iI (if xz = 6 then -8 else (xz : Int)) := by
        by_cases h9 : xz = 6
        · rw [if_pos h9]; exact (hf8 h9).1
        · rw [if_neg h9]; exact (hls (by omega)).1
      subst hjr
      exact x_iret X hr hlk hW (⟨by unfold bxR; rw [if_pos (show (0 ≤ z ∧ z < (bk : Int)) ∧ 0 ≤ p9 ∧ p9 ≤ 1000 by omega)], fun h => by
      by_cases h9 : xz = 6
      · unfold bxR at h; rw [if_pos (show (0 ≤ z ∧ z < (bk : Int)) ∧ 0 ≤ p9 ∧ p9 ≤ 1000 by omega), if_pos h9] at h; omega
      · obtain ⟨P0, Q0, od2, k1, k2⟩ := (hls (by omega)).2.1
        rw [bcl_up] at k2
        exact ⟨P0, Q0, od2, k1, k2⟩, fun h => by
      by_cases h9 : xz = 6
      · exact (hf8 h9).2
      · unfold bxR at h; rw [if_pos (show (0 ≤ z ∧ z < (bk : Int)) ∧ 0 ≤ p9 ∧ p9 ≤ 1000 by omega), if_neg h9] at h; omega, fun j hj => by
      by_cases h9 : xz = 6
      · rw [(hf8 h9).2]
      · exact (hls (by omega)).2.2 j (by omega)⟩) dX10_box_37
    · have hs2 : ¬ (0 ≤ p9 ∧ p9 ≤ 1000) := fun h => by rw [if_pos h] at b_17; omega
      refine x_bipush X (by decide) dX10_box_20 ?_
      exact x_iret X hr hlk hW (⟨by unfold bxR; rw [if_neg (by omega)], fun h => by unfold bxR at h; rw [if_neg (by omega)] at h; omega, fun _ => rfl, fun _ _ => rfl⟩) dX10_box_22

set_option maxHeartbeats 4000000 in
set_option maxRecDepth 100000 in
/-- empty -/
theorem c_X10_empty (l : Launch) (E : wE) (A : Nat → Nat) (n sz : Nat) (g : Nat → va_E) (i bk : Nat) (xz : Nat) (bx px : Nat → Nat) (P : Nat → Int) (Q od : Nat → Nat) (hi : i + 209 < n) (hO : g i = kO A i bk) (hX : BoxV E A g (i + 123) xz (bcl i bx) px P Q od) : Met l yX10_empty wsX10_empty ({ frames := 6, cells := 0, slots := 0, locals := 300 } : Room) (va_Pc [.ref (A (i))] (wPre E A n sz g)) (va_Qi (fun r g' => r = iI (xz : Int) ∧ BoxV E A g' (i + 123) 0 (bcl i bx) px P Q od ∧ ∀ j, (j < i + 123 ∨ i + 141 < j) → g' j = g j) (wAt E A n) (wF A n sz)) 0 0 (wF A n sz) := by
  refine x_met (cc := cX10_empty) (maxL := 1) (ret := (some .int)) [.ref (A (i))] (by decide) rfl (Nat.le_of_ble_eq_true rfl) ?_
  intro p_ e_ s_ m_ below meth c_ ls X hr hlk hnm hsz hW hl
  have hl : lv_has ls 1 [(0, .ref (A (i)))] := hl
  have lk_0 : ∀ w ∈ wsX100, w ∈ wsX10_empty := by decide +kernel
  have lk_1 : Cond.fieldLink RX10 63 (TX10 8).1 (TX10 8).2.1 (TX10 8).2.2.1 ∈ wsX10_empty := by decide +kernel
  have hO : g i = .inr (10, [.ref (A (i + 1)), .ref (A (i + 2)), .int (iI ((bk : Int))), .ref (A (i + 3)), .ref (A (i + 12)), .ref (A (i + 54)), .ref (A (i + 65)), .ref (A (i + 114)), .ref (A (i + 123))]) := hO
  have hbo9 := hX.1
  refine lv_aload_n X.1 X.2.1 dX10_empty_0 rfl (lv_at hl 0 rfl) ?_
  refine x_get (C := RX10) (T := TX10) (N := 9) X hW (by omega) hO rfl lk_0 8 (by decide) lk_1 rfl dX10_empty_1 ?_
  refine x_ci (x_runV (k := 0) (As := []) (rest := []) X hW (c_X1_clear l E A n _ g (i + 123) xz (bcl i bx) px P Q od (by omega) hX) (by omega) hbo9 rfl gX10_empty_X1_clear rfl rfl rfl (by decide +kernel) ⟨by decide, by decide⟩ rfl hl.1 rfl (Nat.le_of_ble_eq_true rfl) dX10_empty_4 ⟨Nat.zero_le _, Nat.zero_le _⟩) hW (fun r_4 g_4 H locs hp_4 hW => ?_)
  obtain ⟨hr9, hX2, hf9⟩ := hp_4
  subst hr9
  exact x_iret X hr hlk hW (⟨rfl, hX2, fun j hj => hf9 j (by omega)⟩) dX10_empty_7

set_option maxHeartbeats 4000000 in
set_option maxRecDepth 100000 in
/-- fair -/
theorem c_X10_fair (l : Launch) (E : wE) (A : Nat → Nat) (n sz : Nat) (g : Nat → va_E) (i bk : Nat) (xz : Nat) (bx px : Nat → Nat) (P : Nat → Int) (Q od : Nat → Nat) (z : Int) (hi : i + 209 < n) (hO : g i = kO A i bk) (hX : BoxV E A g (i + 123) xz (bcl i bx) px P Q od) (hRX : ResX E A g (i + 3)) (hz : I32 z) : Met l yX10_fair wsX10_fair ({ frames := 8, cells := 0, slots := 0, locals := 400 } : Room) (va_Pc [.ref (A (i)), .int (iI (z))] (wPre E A n sz g)) (va_Qi (fun r g' => r = iI (if 0 ≤ z ∧ z < (xz : Int) then 1 else 0) ∧ (0 ≤ z ∧ z < (xz : Int) → ResV E A g' (i + 3) (rdT (P z.toNat) (Q z.toNat)) (rdB (P z.toNat) (Q z.toNat)) ∧ BoxV E A g' (i + 123) xz (bcl i bx) px P Q od) ∧ (¬ (0 ≤ z ∧ z < (xz : Int)) → g' = g) ∧ ∀ j, (j < i + 3 ∨ (i + 11 < j ∧ j < i + 123) ∨ i + 141 < j) → g' j = g j) (wAt E A n) (wF A n sz)) 0 0 (wF A n sz) := by
  refine x_met (cc := cX10_fair) (maxL := 2) (ret := (some .boolean)) [.ref (A (i)), .int (iI (z))] (by decide) rfl (Nat.le_of_ble_eq_true rfl) ?_
  intro p_ e_ s_ m_ below meth c_ ls X hr hlk hnm hsz hW hl
  have hl : lv_has ls 2 [(0, .ref (A (i))), (1, .int (iI (z)))] := hl
  have lk_0 : ∀ w ∈ wsX100, w ∈ wsX10_fair := by decide +kernel
  have lk_1 : Cond.fieldLink RX10 63 (TX10 8).1 (TX10 8).2.1 (TX10 8).2.2.1 ∈ wsX10_fair := by decide +kernel
  have lk_2 : Cond.fieldLink RX10 28 (TX10 3).1 (TX10 3).2.1 (TX10 3).2.2.1 ∈ wsX10_fair := by decide +kernel
  have hO : g i = .inr (10, [.ref (A (i + 1)), .ref (A (i + 2)), .int (iI ((bk : Int))), .ref (A (i + 3)), .ref (A (i + 12)), .ref (A (i + 54)), .ref (A (i + 65)), .ref (A (i + 114)), .ref (A (i + 123))]) := hO
  have hz1 := hz.1
  have hz2 := hz.2
  obtain ⟨⟨rz, hr0⟩, _⟩ := id hRX
  have hbo9 := hX.1
  have hx6 : xz ≤ 6 := hX.2.2.1
  refine lv_iload_n X.1 X.2.1 dX10_fair_0 rfl (lv_at hl 1 rfl) ?_
  refine x_i2l X hz dX10_fair_1 ?_
  refine x_lconst X 0 (by decide) dX10_fair_2 ?_
  refine lv_aload_n X.1 X.2.1 dX10_fair_3 rfl (lv_at hl 0 rfl) ?_
  refine x_get (C := RX10) (T := TX10) (N := 9) X hW (by omega) hO rfl lk_0 8 (by decide) lk_1 rfl dX10_fair_4 ?_
  refine x_ci (x_runV (k := 0) (As := []) (rest := [.long (lI (0)), .long (lI (z))]) X hW (c_X1_size l E A n _ g (i + 123) xz (bcl i bx) px P Q od (by omega) hX) (by omega) hbo9 rfl gX10_fair_X1_size rfl rfl rfl (by decide +kernel) ⟨by decide, by decide⟩ rfl hl.1 rfl (Nat.le_of_ble_eq_true rfl) dX10_fair_7 ⟨Nat.zero_le _, Nat.zero_le _⟩) hW (fun r_7 g_7 H locs hp_7 hW => ?_)
  obtain ⟨hr_7, he_7⟩ := hp_7
  rw [he_7] at hW
  subst hr_7
  refine x_iconst X dX10_fair_10 ?_
  refine x_isub X dX10_fair_11 ?_
  refine x_i2l X ⟨by omega, by omega⟩ dX10_fair_12 ?_
  refine x_ci (x_runS (k := 3) (As := [.long (lI (z)), .long (lI (0)), .long (lI (((xz : Int)) - 1))]) (rest := []) X hW (c_X10_isWithin l E A n _ g (z) (0) ((xz : Int) - 1) ⟨by omega, by omega⟩ ⟨by omega, by omega⟩ ⟨by omega, by omega⟩) gX10_fair_X10_isWithin rfl rfl rfl (by decide +kernel) ⟨by decide, by decide⟩ rfl hl.1 rfl (Nat.le_of_ble_eq_true rfl) dX10_fair_13 ⟨Nat.zero_le _, Nat.zero_le _⟩) hW (fun r_13 g_13 H locs hp_13 hW => ?_)
  obtain ⟨hr_13, he_13⟩ := hp_13
  rw [he_13] at hW
  subst hr_13
  refine x_if_ne (tgt := 21) X ⟨by split <;> decide, by split <;> decide⟩ dX10_fair_16 (by decide) (fun b_16 => ?_) (fun b_16 => ?_)
  · have hs : 0 ≤ z ∧ z ≤ (xz : Int) - 1 := Decidable.byContradiction (fun h => by rw [if_neg h] at b_16; exact b_16 rfl)
    refine lv_aload_n X.1 X.2.1 dX10_fair_21 rfl (lv_at hl 0 rfl) ?_
    refine x_get (C := RX10) (T := TX10) (N := 9) X hW (by omega) hO rfl lk_0 8 (by decide) lk_1 rfl dX10_fair_22 ?_
    refine lv_iload_n X.1 X.2.1 dX10_fair_25 rfl (lv_at hl 1 rfl) ?_
    refine x_seti (((z.toNat : Nat) : Int)) (by omega) ?_
    refine lv_aload_n X.1 X.2.1 dX10_fair_26 rfl (lv_at hl 0 rfl) ?_
    refine x_get (C := RX10) (T := TX10) (N := 9) X hW (by omega) hO rfl lk_0 3 (by decide) lk_2 rfl dX10_fair_27 ?_
    refine x_cv (x_runV (k := 2) (As := [.int (iI (((z.toNat : Nat) : Int))), .ref (A (i + 3))]) (rest := []) X hW (c_X1_fairBarInto l E A n _ g (i + 123) xz (bcl i bx) px P Q od z.toNat (i + 3) (by omega) hX (by omega) (by omega) hRX (by omega)) (by omega) hbo9 rfl gX10_fair_X1_fairBarInto rfl rfl rfl (by decide +kernel) ⟨by decide, by decide⟩ rfl hl.1 rfl (Nat.le_of_ble_eq_true rfl) dX10_fair_30 ⟨Nat.zero_le _, Nat.zero_le _⟩) hW (fun g_30 H locs hp_30 hW => ?_)
    obtain ⟨hR2, hX2, hf9⟩ := hp_30
    refine x_iconst X dX10_fair_33 ?_
    exact x_zret X hr hlk (by decide) hW (⟨by rw [if_pos (by omega)], fun _ => ⟨hR2, hX2⟩, fun h => absurd (show 0 ≤ z ∧ z < (xz : Int) by omega) h, fun j hj => hf9 j (by omega)⟩) dX10_fair_34
  · have hs : ¬ (0 ≤ z ∧ z ≤ (xz : Int) - 1) := fun h => by rw [if_pos h] at b_16; omega
    refine x_iconst X dX10_fair_19 ?_
    exact x_zret X hr hlk (by decide) hW (⟨by rw [if_neg (by omega)], fun h => absurd h (by omega), fun _ => rfl, fun _ _ => rfl⟩) dX10_fair_20

set_option maxHeartbeats 4000000 in
set_option maxRecDepth 100000 in
/-- search -/
theorem c_X10_search (l : Launch) (E : wE) (A : Nat → Nat) (n sz : Nat) (g : Nat → va_E) (i bk : Nat) (L : Nat → List (Nat × Nat)) (xz : Nat) (bx px : Nat → Nat) (P : Nat → Int) (Q od : Nat → Nat) (hi : i + 209 < n) (hO : g i = kO A i bk) (hB : KB E A g i bk L) (hX : BoxV E A g (i + 123) xz (bcl i bx) px P Q od) (hxb : ∀ k, k < xz → bx k < bk) (hRX : ResX E A g (i + 3)) : Met l yX10_search wsX10_search ({ frames := 8, cells := 0, slots := 0, locals := 400 } : Room) (va_Pc [.ref (A (i))] (wPre E A n sz g)) (va_Qv (fun g' => ResV E A g' (i + 3) (rdT ((srS (LkM L bx) px od xz : Nat) : Int) (prT (fun k => LkM L bx (od k)) xz)) (rdB ((srS (LkM L bx) px od xz : Nat) : Int) (prT (fun k => LkM L bx (od k)) xz)) ∧ BoxV E A g' (i + 123) xz (bcl i bx) px P Q od ∧ ∀ j, (j < i + 3 ∨ (i + 11 < j ∧ j < i + 123) ∨ i + 141 < j) → g' j = g j) (wAt E A n) (wF A n sz)) 0 0 (wF A n sz) := by
  refine x_met (cc := cX10_search) (maxL := 1) (ret := none) [.ref (A (i))] (by decide) rfl (Nat.le_of_ble_eq_true rfl) ?_
  intro p_ e_ s_ m_ below meth c_ ls X hr hlk hnm hsz hW hl
  have hl : lv_has ls 1 [(0, .ref (A (i)))] := hl
  have lk_0 : ∀ w ∈ wsX100, w ∈ wsX10_search := by decide +kernel
  have lk_1 : Cond.fieldLink RX10 63 (TX10 8).1 (TX10 8).2.1 (TX10 8).2.2.1 ∈ wsX10_search := by decide +kernel
  have lk_2 : Cond.fieldLink RX10 28 (TX10 3).1 (TX10 3).2.1 (TX10 3).2.2.1 ∈ wsX10_search := by decide +kernel
  have hO : g i = .inr (10, [.ref (A (i + 1)), .ref (A (i + 2)), .int (iI ((bk : Int))), .ref (A (i + 3)), .ref (A (i + 12)), .ref (A (i + 54)), .ref (A (i + 65)), .ref (A (i + 114)), .ref (A (i + 123))]) := hO
  obtain ⟨⟨rz, hr0⟩, _⟩ := id hRX
  have hbo9 := hX.1
  refine lv_aload_n X.1 X.2.1 dX10_search_0 rfl (lv_at hl 0 rfl) ?_
  refine x_get (C := RX10) (T := TX10) (N := 9) X hW (by omega) hO rfl lk_0 8 (by decide) lk_1 rfl dX10_search_1 ?_
  refine lv_aload_n X.1 X.2.1 dX10_search_4 rfl (lv_at hl 0 rfl) ?_
  refine x_get (C := RX10) (T := TX10) (N := 9) X hW (by omega) hO rfl lk_0 3 (by decide) lk_2 rfl dX10_search_5 ?_
  refine x_cv (x_runV (k := 1) (As := [.ref (A (i + 3))]) (rest := []) X hW (c_X1_searchInto l E A n _ g (i + 123) xz (bcl i bx) px P Q od (LkM L bx) (i + 3) (by omega) hX (hB.bks hi hxb) (fun k _ => Or.inl (by have := bcl_far (i := i) bx k; omega)) (fun k hk => (hB.2.2.1 _ (hxb k hk)).2) (by omega) hRX (by omega) (fun k _ => Or.inl (by have := bcl_far (i := i) bx k; omega))) (by omega) hbo9 rfl gX10_search_X1_searchInto rfl rfl rfl (by decide +kernel) ⟨by decide, by decide⟩ rfl hl.1 rfl (Nat.le_of_ble_eq_true rfl) dX10_search_8 ⟨Nat.zero_le _, Nat.zero_le _⟩) hW (fun g_8 H locs hp_8 hW => ?_)
  obtain ⟨hR2, hX2, hf9⟩ := hp_8
  exact x_vret X hr hlk hW (⟨hR2, hX2, fun j hj => hf9 j (by omega)⟩) dX10_search_11

set_option maxHeartbeats 4000000 in
set_option maxRecDepth 100000 in
/-- look -/
theorem c_X10_look (l : Launch) (E : wE) (A : Nat → Nat) (n sz : Nat) (g : Nat → va_E) (i bk : Nat) (tz : Int) (bz : Nat) (w : Int) (hi : i + 209 < n) (hO : g i = kO A i bk) (hR : ResV E A g (i + 3) tz bz) (hw : I32 w) : Met l yX10_look wsX10_look ({ frames := 4, cells := 0, slots := 0, locals := 160 } : Room) (va_Pc [.ref (A (i)), .int (iI (w))] (wPre E A n sz g)) (va_Qi (fun r g' => r = iI (if w = 0 then tz.sign else if w = 1 then ((pcN tz.natAbs : Nat) : Int) else if w = 2 then ((pcN bz : Nat) : Int) else -1) ∧ g' = g) (wAt E A n) (wF A n sz)) 0 0 (wF A n sz) := by
  refine x_met (cc := cX10_look) (maxL := 2) (ret := (some .int)) [.ref (A (i)), .int (iI (w))] (by decide) rfl (Nat.le_of_ble_eq_true rfl) ?_
  intro p_ e_ s_ m_ below meth c_ ls X hr hlk hnm hsz hW hl
  have hl : lv_has ls 2 [(0, .ref (A (i))), (1, .int (iI (w)))] := hl
  have lk_0 : ∀ w ∈ wsX100, w ∈ wsX10_look := by decide +kernel
  have lk_1 : Cond.fieldLink RX10 28 (TX10 3).1 (TX10 3).2.1 (TX10 3).2.2.1 ∈ wsX10_look := by decide +kernel
  have hO : g i = .inr (10, [.ref (A (i + 1)), .ref (A (i + 2)), .int (iI ((bk : Int))), .ref (A (i + 3)), .ref (A (i + 12)), .ref (A (i + 54)), .ref (A (i + 65)), .ref (A (i + 114)), .ref (A (i + 123))]) := hO
  have hr0 := hR.1
  refine lv_iload_n X.1 X.2.1 dX10_look_0 rfl (lv_at hl 1 rfl) ?_
  by_cases e_1_0 : w = 0
  · have hx_1 : (iI (w)).toInt = 0 := by rw [iI_toInt hw]; exact e_1_0
    refine lv_tableIn (off := 27) (tgt := 28) X.1 X.2.1 dX10_look_1 (by rw [hx_1]; decide) (by rw [hx_1]; decide) (by rw [hx_1]; rfl) (by decide) ?_
    refine lv_aload_n X.1 X.2.1 dX10_look_28 rfl (lv_at hl 0 rfl) ?_
    refine x_get (C := RX10) (T := TX10) (N := 9) X hW (by omega) hO rfl lk_0 3 (by decide) lk_1 rfl dX10_look_29 ?_
    refine x_ci (x_runV (k := 0) (As := []) (rest := []) X hW (c_X8_sign l E A n _ g (i + 3) tz bz (by omega) hR) (by omega) hr0 rfl gX10_look_X8_sign rfl rfl rfl (by decide +kernel) ⟨by decide, by decide⟩ rfl hl.1 rfl (Nat.le_of_ble_eq_true rfl) dX10_look_32 ⟨Nat.zero_le _, Nat.zero_le _⟩) hW (fun r_32 g_32 H locs hp_32 hW => ?_)
    obtain ⟨hr_32, he_32⟩ := hp_32
    rw [he_32] at hW
    subst hr_32
    exact x_iret X hr hlk hW (⟨by rw [if_pos e_1_0], rfl⟩) dX10_look_35
  by_cases e_1_1 : w = 1
  · have hx_1 : (iI (w)).toInt = 1 := by rw [iI_toInt hw]; exact e_1_1
    refine lv_tableIn (off := 35) (tgt := 36) X.1 X.2.1 dX10_look_1 (by rw [hx_1]; decide) (by rw [hx_1]; decide) (by rw [hx_1]; rfl) (by decide) ?_
    refine lv_aload_n X.1 X.2.1 dX10_look_36 rfl (lv_at hl 0 rfl) ?_
    refine x_get (C := RX10) (T := TX10) (N := 9) X hW (by omega) hO rfl lk_0 3 (by decide) lk_1 rfl dX10_look_37 ?_
    refine x_iconst X dX10_look_40 ?_
    refine x_cr (x_runV (k := 1) (As := [.int (iI (0))]) (rest := []) X hW (c_X8_digits l E A n _ g (i + 3) tz bz 0 (by omega) ⟨by decide, by decide⟩ hR) (by omega) hr0 rfl gX10_look_X8_digits rfl rfl rfl (by decide +kernel) ⟨by decide, by decide⟩ rfl hl.1 rfl (Nat.le_of_ble_eq_true rfl) dX10_look_41 ⟨Nat.zero_le _, Nat.zero_le _⟩) hW (fun j_41 g_41 H locs hp_41 hW => ?_)
    have hj_41 : j_41 = i + 3 + 1 := hp_41.1
    have he_41 : g_41 = g := hp_41.2
    rw [he_41] at hW
    subst hj_41
    have hd9 := hR.2.1.2.1
    refine x_ci (x_runV (k := 0) (As := []) (rest := []) X hW (c_X5_partCount l E A n _ g (i + 3 + 1) tz.natAbs (by omega) hR.2.1) (by omega) hd9 rfl gX10_look_X5_partCount rfl rfl rfl (by decide +kernel) ⟨by decide, by decide⟩ rfl hl.1 rfl (Nat.le_of_ble_eq_true rfl) dX10_look_44 ⟨Nat.zero_le _, Nat.zero_le _⟩) hW (fun r_44 g_44 H locs hp_44 hW => ?_)
    obtain ⟨hr_44, he_44⟩ := hp_44
    rw [he_44] at hW
    subst hr_44
    exact x_iret X hr hlk hW (⟨by rw [if_neg e_1_0, if_pos e_1_1], rfl⟩) dX10_look_47
  by_cases e_1_2 : w = 2
  · have hx_1 : (iI (w)).toInt = 2 := by rw [iI_toInt hw]; exact e_1_2
    refine lv_tableIn (off := 47) (tgt := 48) X.1 X.2.1 dX10_look_1 (by rw [hx_1]; decide) (by rw [hx_1]; decide) (by rw [hx_1]; rfl) (by decide) ?_
    refine lv_aload_n X.1 X.2.1 dX10_look_48 rfl (lv_at hl 0 rfl) ?_
    refine x_get (C := RX10) (T := TX10) (N := 9) X hW (by omega) hO rfl lk_0 3 (by decide) lk_1 rfl dX10_look_49 ?_
    refine x_iconst X dX10_look_52 ?_
    refine x_cr (x_runV (k := 1) (As := [.int (iI (1))]) (rest := []) X hW (c_X8_digits l E A n _ g (i + 3) tz bz 1 (by omega) ⟨by decide, by decide⟩ hR) (by omega) hr0 rfl gX10_look_X8_digits rfl rfl rfl (by decide +kernel) ⟨by decide, by decide⟩ rfl hl.1 rfl (Nat.le_of_ble_eq_true rfl) dX10_look_53 ⟨Nat.zero_le _, Nat.zero_le _⟩) hW (fun j_53 g_53 H locs hp_53 hW => ?_)
    have hj_53 : j_53 = i + 3 + 3 := hp_53.1
    have he_53 : g_53 = g := hp_53.2
    rw [he_53] at hW
    subst hj_53
    have hd9 := hR.2.2.1.2.1
    refine x_ci (x_runV (k := 0) (As := []) (rest := []) X hW (c_X5_partCount l E A n _ g (i + 3 + 3) bz (by omega) hR.2.2.1) (by omega) hd9 rfl gX10_look_X5_partCount rfl rfl rfl (by decide +kernel) ⟨by decide, by decide⟩ rfl hl.1 rfl (Nat.le_of_ble_eq_true rfl) dX10_look_56 ⟨Nat.zero_le _, Nat.zero_le _⟩) hW (fun r_56 g_56 H locs hp_56 hW => ?_)
    obtain ⟨hr_56, he_56⟩ := hp_56
    rw [he_56] at hW
    subst hr_56
    exact x_iret X hr hlk hW (⟨by rw [if_neg e_1_0, if_neg e_1_1, if_pos e_1_2], rfl⟩) dX10_look_59
  refine lv_tableOut (tgt := 60) X.1 X.2.1 dX10_look_1 (by rw [iI_toInt hw]; omega) (by decide) ?_
  refine x_iconst X dX10_look_60 ?_
  exact x_iret X hr hlk hW (⟨by rw [if_neg e_1_0, if_neg e_1_1, if_neg e_1_2], rfl⟩) dX10_look_61

set_option maxHeartbeats 4000000 in
set_option maxRecDepth 100000 in
/-- part -/
theorem c_X10_part (l : Launch) (E : wE) (A : Nat → Nat) (n sz : Nat) (g : Nat → va_E) (i bk : Nat) (tz : Int) (bz : Nat) (w z : Int) (hi : i + 209 < n) (hO : g i = kO A i bk) (hR : ResV E A g (i + 3) tz bz) (hw : I32 w) (hz : I32 z) : Met l yX10_part wsX10_part ({ frames := 4, cells := 0, slots := 0, locals := 160 } : Room) (va_Pc [.ref (A (i)), .int (iI (w)), .int (iI (z))] (wPre E A n sz g)) (va_Qi (fun r g' => r = iI (if 0 ≤ z ∧ z ≤ 5 then ((dg (if w = 0 then tz.natAbs else bz) z.toNat : Nat) : Int) else 0) ∧ g' = g) (wAt E A n) (wF A n sz)) 0 0 (wF A n sz) := by
  refine x_met (cc := cX10_part) (maxL := 3) (ret := (some .int)) [.ref (A (i)), .int (iI (w)), .int (iI (z))] (by decide) rfl (Nat.le_of_ble_eq_true rfl) ?_
  intro p_ e_ s_ m_ below meth c_ ls X hr hlk hnm hsz hW hl
  have hl : lv_has ls 3 [(0, .ref (A (i))), (1, .int (iI (w))), (2, .int (iI (z)))] := hl
  have lk_0 : ∀ w ∈ wsX100, w ∈ wsX10_part := by decide +kernel
  have lk_1 : Cond.fieldLink RX10 28 (TX10 3).1 (TX10 3).2.1 (TX10 3).2.2.1 ∈ wsX10_part := by decide +kernel
  have hO : g i = .inr (10, [.ref (A (i + 1)), .ref (A (i + 2)), .int (iI ((bk : Int))), .ref (A (i + 3)), .ref (A (i + 12)), .ref (A (i + 54)), .ref (A (i + 65)), .ref (A (i + 114)), .ref (A (i + 123))]) := hO
  have hr0 := hR.1
  refine lv_aload_n X.1 X.2.1 dX10_part_0 rfl (lv_at hl 0 rfl) ?_
  refine x_get (C := RX10) (T := TX10) (N := 9) X hW (by omega) hO rfl lk_0 3 (by decide) lk_1 rfl dX10_part_1 ?_
  refine lv_iload_n X.1 X.2.1 dX10_part_4 rfl (lv_at hl 1 rfl) ?_
  refine x_cr (x_runV (k := 1) (As := [.int (iI (w))]) (rest := []) X hW (c_X8_digits l E A n _ g (i + 3) tz bz w (by omega) hw hR) (by omega) hr0 rfl gX10_part_X8_digits rfl rfl rfl (by decide +kernel) ⟨by decide, by decide⟩ rfl hl.1 rfl (Nat.le_of_ble_eq_true rfl) dX10_part_5 ⟨Nat.zero_le _, Nat.zero_le _⟩) hW (fun j_5 g_5 H locs hp_5 hW => ?_)
  have hj_5 : j_5 = (if w = 0 then i + 3 + 1 else i + 3 + 3) := hp_5.1
  have he_5 : g_5 = g := hp_5.2
  rw [he_5] at hW
  have hdv : NatV E A g j_5 (if w = 0 then tz.natAbs else bz) := by
    by_cases h9 : w = 0
    · rw [hj_5, if_pos h9, if_pos h9]; exact hR.2.1
    · rw [hj_5, if_neg h9, if_neg h9]; exact hR.2.2.1
  have hjn : j_5 + 1 < n := by rw [hj_5]; split <;> omega
  have hd9 := hdv.2.1
  refine lv_iload_n X.1 X.2.1 dX10_part_8 rfl (lv_at hl 2 rfl) ?_
  refine x_ci (x_runV (k := 1) (As := [.int (iI (z))]) (rest := []) X hW (c_X5_partAt l E A n _ g j_5 (if w = 0 then tz.natAbs else bz) z hjn hdv hz) (by omega) hd9 rfl gX10_part_X5_partAt rfl rfl rfl (by decide +kernel) ⟨by decide, by decide⟩ rfl hl.1 rfl (Nat.le_of_ble_eq_true rfl) dX10_part_9 ⟨Nat.zero_le _, Nat.zero_le _⟩) hW (fun r_9 g_9 H locs hp_9 hW => ?_)
  obtain ⟨hr_9, he_9⟩ := hp_9
  rw [he_9] at hW
  subst hr_9
  exact x_iret X hr hlk hW (⟨rfl, rfl⟩) dX10_part_12

set_option maxHeartbeats 4000000 in
set_option maxRecDepth 100000 in
/-- compare -/
theorem c_X10_compare (l : Launch) (E : wE) (A : Nat → Nat) (n sz : Nat) (g : Nat → va_E) (i bk : Nat) (tz : Int) (bz : Nat) (a b : Int) (hi : i + 209 < n) (hO : g i = kO A i bk) (hR : ResV E A g (i + 3) tz bz) (ha : I32 a) (hb : I32 b) (ht4 : tz.natAbs ≤ 10 ^ 44) (hb4 : bz ≤ 10 ^ 44) : Met l yX10_compare wsX10_compare ({ frames := 6, cells := 0, slots := 0, locals := 300 } : Room) (va_Pc [.ref (A (i)), .int (iI (a)), .int (iI (b))] (wPre E A n sz g)) (va_Qi (fun r g' => r = iI (if b < 1 then -2 else if tz * b < a * (bz : Int) then -1 else if tz * b = a * (bz : Int) then 0 else 1) ∧ ResV E A g' (i + 3) tz bz ∧ ∀ j, (j < i + 3 ∨ i + 11 < j) → g' j = g j) (wAt E A n) (wF A n sz)) 0 0 (wF A n sz) := by
  refine x_met (cc := cX10_compare) (maxL := 3) (ret := (some .int)) [.ref (A (i)), .int (iI (a)), .int (iI (b))] (by decide) rfl (Nat.le_of_ble_eq_true rfl) ?_
  intro p_ e_ s_ m_ below meth c_ ls X hr hlk hnm hsz hW hl
  have hl : lv_has ls 3 [(0, .ref (A (i))), (1, .int (iI (a))), (2, .int (iI (b)))] := hl
  have lk_0 : ∀ w ∈ wsX100, w ∈ wsX10_compare := by decide +kernel
  have lk_1 : Cond.fieldLink RX10 28 (TX10 3).1 (TX10 3).2.1 (TX10 3).2.2.1 ∈ wsX10_compare := by decide +kernel
  have hO : g i = .inr (10, [.ref (A (i + 1)), .ref (A (i + 2)), .int (iI ((bk : Int))), .ref (A (i + 3)), .ref (A (i + 12)), .ref (A (i + 54)), .ref (A (i + 65)), .ref (A (i + 114)), .ref (A (i + 123))]) := hO
  have hr0 := hR.1
  have ha1 := ha.1
  have ha2 := ha.2
  have hb1 := hb.1
  have hb2 := hb.2
  refine lv_iload_n X.1 X.2.1 dX10_compare_0 rfl (lv_at hl 2 rfl) ?_
  refine x_iconst X dX10_compare_1 ?_
  refine x_icmp_ge (tgt := 8) X hb ⟨by decide, by decide⟩ dX10_compare_2 (by decide) (fun b_2 => ?_) (fun b_2 => ?_)
  · have hm1 : tz.natAbs * b.toNat < 10 ^ 54 := Nat.lt_of_le_of_lt (Nat.mul_le_mul ht4 (show b.toNat ≤ 2147483648 by omega)) (by decide)
    have hm2 : bz * a.natAbs < 10 ^ 54 := Nat.lt_of_le_of_lt (Nat.mul_le_mul hb4 (show a.natAbs ≤ 2147483648 by omega)) (by decide)
    refine lv_aload_n X.1 X.2.1 dX10_compare_8 rfl (lv_at hl 0 rfl) ?_
    refine x_get (C := RX10) (T := TX10) (N := 9) X hW (by omega) hO rfl lk_0 3 (by decide) lk_1 rfl dX10_compare_9 ?_
    refine lv_iload_n X.1 X.2.1 dX10_compare_12 rfl (lv_at hl 1 rfl) ?_
    refine lv_iload_n X.1 X.2.1 dX10_compare_13 rfl (lv_at hl 2 rfl) ?_
    refine x_seti (((b.toNat : Nat) : Int)) (by omega) ?_
    refine x_ci (x_runV (k := 2) (As := [.int (iI (a)), .int (iI (((b.toNat : Nat) : Int)))]) (rest := []) X hW (c_X8_against l E A n _ g (i + 3) tz bz a b.toNat (by omega) ha (by omega) (by omega) hR hm1 hm2) (by omega) hr0 rfl gX10_compare_X8_against rfl rfl rfl (by decide +kernel) ⟨by decide, by decide⟩ rfl hl.1 rfl (Nat.le_of_ble_eq_true rfl) dX10_compare_14 ⟨Nat.zero_le _, Nat.zero_le _⟩) hW (fun r_14 g_14 H locs hp_14 hW => ?_)
    obtain ⟨hr9, hR2, hf9⟩ := hp_14
    subst hr9
    exact x_iret X hr hlk hW (⟨by rw [if_neg (show ¬ b < 1 by omega), show ((b.toNat : Nat) : Int) = b from by omega], hR2, fun j hj => hf9 j (by omega)⟩) dX10_compare_17
  · refine x_bipush X (by decide) dX10_compare_5 ?_
    exact x_iret X hr hlk hW (⟨by rw [if_pos (by omega)], hR, fun _ _ => rfl⟩) dX10_compare_7

set_option maxHeartbeats 4000000 in
set_option maxRecDepth 100000 in
/-- count -/
theorem c_X10_count (l : Launch) (E : wE) (A : Nat → Nat) (n sz : Nat) (g : Nat → va_E) (i bk : Nat) (rw rl : Nat → Int) (nm : Nat → Nat → Int) (cz : Nat) (co br : Nat → Nat) (hz : Nat) (ta tb : Nat → Nat) (xz : Nat) (bx px : Nat → Nat) (P : Nat → Int) (Q od : Nat → Nat) (z : Int) (hi : i + 209 < n) (hO : g i = kO A i bk) (hR : KR E A g i rw rl nm) (hC : ComV E A g (i + 12) cz (bcl i co) br) (hH : HapV E A g (i + 114) hz ta tb) (hX : BoxV E A g (i + 123) xz (bcl i bx) px P Q od) (hz9 : I32 z) : Met l yX10_count wsX10_count ({ frames := 4, cells := 0, slots := 0, locals := 160 } : Room) (va_Pc [.ref (A (i)), .int (iI (z))] (wPre E A n sz g)) (va_Qi (fun r g' => r = iI (if z = 0 then (bk : Int) else if z = 1 then (cz : Int) else if z = 2 then (hz : Int) else if z = 3 then (xz : Int) else if z = 4 then ((thR rl 10 : Nat) : Int) else -1) ∧ g' = g) (wAt E A n) (wF A n sz)) 0 0 (wF A n sz) := by
  refine x_met (cc := cX10_count) (maxL := 2) (ret := (some .int)) [.ref (A (i)), .int (iI (z))] (by decide) rfl (Nat.le_of_ble_eq_true rfl) ?_
  intro p_ e_ s_ m_ below meth c_ ls X hr hlk hnm hsz hW hl
  have hl : lv_has ls 2 [(0, .ref (A (i))), (1, .int (iI (z)))] := hl
  have lk_0 : ∀ w ∈ wsX100, w ∈ wsX10_count := by decide +kernel
  have lk_1 : Cond.fieldLink RX10 21 (TX10 2).1 (TX10 2).2.1 (TX10 2).2.2.1 ∈ wsX10_count := by decide +kernel
  have lk_2 : Cond.fieldLink RX10 35 (TX10 4).1 (TX10 4).2.1 (TX10 4).2.2.1 ∈ wsX10_count := by decide +kernel
  have lk_3 : Cond.fieldLink RX10 56 (TX10 7).1 (TX10 7).2.1 (TX10 7).2.2.1 ∈ wsX10_count := by decide +kernel
  have lk_4 : Cond.fieldLink RX10 63 (TX10 8).1 (TX10 8).2.1 (TX10 8).2.2.1 ∈ wsX10_count := by decide +kernel
  have hO : g i = .inr (10, [.ref (A (i + 1)), .ref (A (i + 2)), .int (iI ((bk : Int))), .ref (A (i + 3)), .ref (A (i + 12)), .ref (A (i + 54)), .ref (A (i + 65)), .ref (A (i + 114)), .ref (A (i + 123))]) := hO
  have hcm := hC.1
  have hho := hH.1
  have hbo9 := hX.1
  refine lv_iload_n X.1 X.2.1 dX10_count_0 rfl (lv_at hl 1 rfl) ?_
  by_cases e_1_0 : z = 0
  · have hx_1 : (iI (z)).toInt = 0 := by rw [iI_toInt hz9]; exact e_1_0
    refine lv_tableIn (off := 35) (tgt := 36) X.1 X.2.1 dX10_count_1 (by rw [hx_1]; decide) (by rw [hx_1]; decide) (by rw [hx_1]; rfl) (by decide) ?_
    refine lv_aload_n X.1 X.2.1 dX10_count_36 rfl (lv_at hl 0 rfl) ?_
    refine x_get (C := RX10) (T := TX10) (N := 9) X hW (by omega) hO rfl lk_0 2 (by decide) lk_1 rfl dX10_count_37 ?_
    exact x_iret X hr hlk hW (⟨by rw [if_pos e_1_0], rfl⟩) dX10_count_40
  by_cases e_1_1 : z = 1
  · have hx_1 : (iI (z)).toInt = 1 := by rw [iI_toInt hz9]; exact e_1_1
    refine lv_tableIn (off := 40) (tgt := 41) X.1 X.2.1 dX10_count_1 (by rw [hx_1]; decide) (by rw [hx_1]; decide) (by rw [hx_1]; rfl) (by decide) ?_
    refine lv_aload_n X.1 X.2.1 dX10_count_41 rfl (lv_at hl 0 rfl) ?_
    refine x_get (C := RX10) (T := TX10) (N := 9) X hW (by omega) hO rfl lk_0 4 (by decide) lk_2 rfl dX10_count_42 ?_
    refine x_ci (x_runV (k := 0) (As := []) (rest := []) X hW (c_X2_size l E A n _ g (i + 12) cz (bcl i co) br (by omega) hC) (by omega) hcm rfl gX10_count_X2_size rfl rfl rfl (by decide +kernel) ⟨by decide, by decide⟩ rfl hl.1 rfl (Nat.le_of_ble_eq_true rfl) dX10_count_45 ⟨Nat.zero_le _, Nat.zero_le _⟩) hW (fun r_45 g_45 H locs hp_45 hW => ?_)
    obtain ⟨hr_45, he_45⟩ := hp_45
    rw [he_45] at hW
    subst hr_45
    exact x_iret X hr hlk hW (⟨by rw [if_neg e_1_0, if_pos e_1_1], rfl⟩) dX10_count_48
  by_cases e_1_2 : z = 2
  · have hx_1 : (iI (z)).toInt = 2 := by rw [iI_toInt hz9]; exact e_1_2
    refine lv_tableIn (off := 48) (tgt := 49) X.1 X.2.1 dX10_count_1 (by rw [hx_1]; decide) (by rw [hx_1]; decide) (by rw [hx_1]; rfl) (by decide) ?_
    refine lv_aload_n X.1 X.2.1 dX10_count_49 rfl (lv_at hl 0 rfl) ?_
    refine x_get (C := RX10) (T := TX10) (N := 9) X hW (by omega) hO rfl lk_0 7 (by decide) lk_3 rfl dX10_count_50 ?_
    refine x_ci (x_runV (k := 0) (As := []) (rest := []) X hW (c_X4_size l E A n _ g (i + 114) hz ta tb (by omega) hH) (by omega) hho rfl gX10_count_X4_size rfl rfl rfl (by decide +kernel) ⟨by decide, by decide⟩ rfl hl.1 rfl (Nat.le_of_ble_eq_true rfl) dX10_count_53 ⟨Nat.zero_le _, Nat.zero_le _⟩) hW (fun r_53 g_53 H locs hp_53 hW => ?_)
    obtain ⟨hr_53, he_53⟩ := hp_53
    rw [he_53] at hW
    subst hr_53
    exact x_iret X hr hlk hW (⟨by rw [if_neg e_1_0, if_neg e_1_1, if_pos e_1_2], rfl⟩) dX10_count_56
  by_cases e_1_3 : z = 3
  · have hx_1 : (iI (z)).toInt = 3 := by rw [iI_toInt hz9]; exact e_1_3
    refine lv_tableIn (off := 56) (tgt := 57) X.1 X.2.1 dX10_count_1 (by rw [hx_1]; decide) (by rw [hx_1]; decide) (by rw [hx_1]; rfl) (by decide) ?_
    refine lv_aload_n X.1 X.2.1 dX10_count_57 rfl (lv_at hl 0 rfl) ?_
    refine x_get (C := RX10) (T := TX10) (N := 9) X hW (by omega) hO rfl lk_0 8 (by decide) lk_4 rfl dX10_count_58 ?_
    refine x_ci (x_runV (k := 0) (As := []) (rest := []) X hW (c_X1_size l E A n _ g (i + 123) xz (bcl i bx) px P Q od (by omega) hX) (by omega) hbo9 rfl gX10_count_X1_size rfl rfl rfl (by decide +kernel) ⟨by decide, by decide⟩ rfl hl.1 rfl (Nat.le_of_ble_eq_true rfl) dX10_count_61 ⟨Nat.zero_le _, Nat.zero_le _⟩) hW (fun r_61 g_61 H locs hp_61 hW => ?_)
    obtain ⟨hr_61, he_61⟩ := hp_61
    rw [he_61] at hW
    subst hr_61
    exact x_iret X hr hlk hW (⟨by rw [if_neg e_1_0, if_neg e_1_1, if_neg e_1_2, if_pos e_1_3], rfl⟩) dX10_count_64
  by_cases e_1_4 : z = 4
  · have hx_1 : (iI (z)).toInt = 4 := by rw [iI_toInt hz9]; exact e_1_4
    refine lv_tableIn (off := 64) (tgt := 65) X.1 X.2.1 dX10_count_1 (by rw [hx_1]; decide) (by rw [hx_1]; decide) (by rw [hx_1]; rfl) (by decide) ?_
    refine lv_aload_n X.1 X.2.1 dX10_count_65 rfl (lv_at hl 0 rfl) ?_
    refine x_ci (x_runV (k := 0) (As := []) (rest := []) X hW (c_X10_rowsThere l E A n _ g i bk rw rl nm hi hO hR) (by omega) hO rfl gX10_count_X10_rowsThere rfl rfl rfl (by decide +kernel) ⟨by decide, by decide⟩ rfl hl.1 rfl (Nat.le_of_ble_eq_true rfl) dX10_count_66 ⟨Nat.zero_le _, Nat.zero_le _⟩) hW (fun r_66 g_66 H locs hp_66 hW => ?_)
    obtain ⟨hr_66, he_66⟩ := hp_66
    rw [he_66] at hW
    subst hr_66
    exact x_iret X hr hlk hW (⟨by rw [if_neg e_1_0, if_neg e_1_1, if_neg e_1_2, if_neg e_1_3, if_pos e_1_4], rfl⟩) dX10_count_69
  refine lv_tableOut (tgt := 70) X.1 X.2.1 dX10_count_1 (by rw [iI_toInt hz9]; omega) (by decide) ?_
  refine x_iconst X dX10_count_70 ?_
  exact x_iret X hr hlk hW (⟨by rw [if_neg e_1_0, if_neg e_1_1, if_neg e_1_2, if_neg e_1_3, if_neg e_1_4], rfl⟩) dX10_count_71
