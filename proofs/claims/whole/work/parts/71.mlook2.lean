theorem mp_end {v k : Nat} (hv : v < 10 ^ 54) (hk : k ≤ 9) (hz : v / 1000000000 ^ (k + 1) = 0) (h : k = 0 ∨ dg v k ≠ 0) : pcN v = k + 1 := by
  have h6 : k + 1 ≤ 6 := by
    apply Decidable.byContradiction
    intro hc
    rcases h with h | h
    · omega
    · apply h
      unfold dg
      have e : v / 1000000000 ^ k = 0 := Nat.div_eq_of_lt (Nat.lt_of_lt_of_le hv (Nat.le_trans (by decide) (Nat.pow_le_pow_right (n := 1000000000) (by decide) (show 6 ≤ k by omega))))
      rw [e]
  refine pcN_at (by omega) h6 hz ?_
  rcases h with h | h
  · left; omega
  · right
    rw [show k + 1 - 1 = k from rfl]
    intro e
    apply h
    unfold dg
    rw [e]
theorem mp_step {v k : Nat} (hz : v / 1000000000 ^ (k + 1 + 1) = 0) (h : dg v (k + 1) = 0) : v / 1000000000 ^ (k + 1) = 0 := by
  rw [dv_split v (k + 1), hz, h]
theorem dg_hi {v k : Nat} (hv : v < 10 ^ 54) (h : 6 ≤ k) : dg v k = 0 := by
  unfold dg
  have e : v / 1000000000 ^ k = 0 := Nat.div_eq_of_lt (Nat.lt_of_lt_of_le hv (Nat.le_trans (by decide) (Nat.pow_le_pow_right (n := 1000000000) (by decide) h)))
  rw [e]

set_option maxHeartbeats 4000000 in
set_option maxRecDepth 100000 in
/-- manyParts -/
theorem c_X11_manyParts (l : Launch) (E : wE) (A : Nat → Nat) (n sz : Nat) (g : Nat → va_E) (i a : Nat) (q : Nat → Int) (N : Nat → Int) (v : Nat) (hi : i + 16 < n) (hO : g i = mO A i q) (ha : a < 4000) (hN : MN E A g i N) (hv : N a = (v : Int)) (hv5 : v < 10 ^ 54) : Met l yX11_manyParts wsX11_manyParts ({ frames := 1, cells := 0, slots := 0, locals := 60 } : Room) (va_Pc [.ref (A (i)), .int (iI ((a : Int)))] (wPre E A n sz g)) (va_Qi (fun r g' => r = iI ((pcN v : Nat) : Int) ∧ g' = g) (wAt E A n) (wF A n sz)) 0 0 (wF A n sz) := by
  refine x_met (cc := cX11_manyParts) (maxL := 3) (ret := (some .int)) [.ref (A (i)), .int (iI ((a : Int)))] (by decide) rfl (Nat.le_of_ble_eq_true rfl) ?_
  intro p e s m below meth c ls X hr hlk hnm hsz hW hl
  have hl : lv_has ls 3 [(0, .ref (A (i))), (1, .int (iI ((a : Int))))] := hl
  have lk_0 : ∀ w ∈ wsX110, w ∈ wsX11_manyParts := by decide +kernel
  have lk_1 : Cond.fieldLink RX11 10 (TX11 0).1 (TX11 0).2.1 (TX11 0).2.2.1 ∈ wsX11_manyParts := by decide +kernel
  have hO : g i = .inr (11, [.ref (A (i + 1)), .ref (A (i + 2)), .ref (A (i + 3)), .ref (A (i + 4)), .int (iI (q 0)), .ref (A (i + 5)), .ref (A (i + 6)), .ref (A (i + 7)), .ref (A (i + 8)), .int (iI (q 1)), .ref (A (i + 9)), .ref (A (i + 10)), .ref (A (i + 11)), .int (iI (q 2)), .ref (A (i + 12)), .ref (A (i + 13)), .int (iI (q 3)), .ref (A (i + 14)), .ref (A (i + 15)), .ref (A (i + 16)), .int (iI (q 4))]) := hO
  obtain ⟨nf, h1, hN⟩ := hN
  have hv8 : (v : Int) < 10 ^ 80 := by omega
  refine x_bipush X (by decide) dX11_manyParts_0 ?_
  refine lv_istore_n (lv' := [(2, .int (iI (9))), (0, .ref (A (i))), (1, .int (iI ((a : Int))))]) X.1 X.2.1 dX11_manyParts_2 rfl hl (by decide) rfl (fun ls hl => ?_)
  have loop_3 : ∀ (fuel : Nat) (k : Nat) (gw : Nat → va_E) (H : Heap) (locs : List Loc) (ls : Array Slot), (k) < fuel → (k ≤ 9) → (v / 1000000000 ^ (k + 1) = 0) → (gw = g) → wH E (wF A n sz) A n s gw H locs → lv_has ls 3 [(0, .ref (A (i))), (1, .int (iI ((a : Int)))), (2, .int (iI ((k : Int))))] → W p l e ({ frames := 1, cells := 0, slots := 0, locals := 60 } : Room) s m [.ref (A (i)), .int (iI ((a : Int)))].toArray below meth c H locs 0 0 (MQ below (va_Qi (fun r g' => r = iI ((pcN v : Nat) : Int) ∧ g' = g) (wAt E A n) (wF A n sz)) [.ref (A (i)), .int (iI ((a : Int)))].toArray s 0 0 (wF A n sz)) (F0 m 3 ls []) := by
    intro fuel
    induction fuel with
    | zero => intro k gw H locs ls hm; exact absurd hm (Nat.not_lt_zero _)
    | succ fuel ih_3 =>
      intro k gw H locs ls hm hk hz hgg hW hl
      have hO : gw i = .inr (11, [.ref (A (i + 1)), .ref (A (i + 2)), .ref (A (i + 3)), .ref (A (i + 4)), .int (iI (q 0)), .ref (A (i + 5)), .ref (A (i + 6)), .ref (A (i + 7)), .ref (A (i + 8)), .int (iI (q 1)), .ref (A (i + 9)), .ref (A (i + 10)), .ref (A (i + 11)), .int (iI (q 2)), .ref (A (i + 12)), .ref (A (i + 13)), .int (iI (q 3)), .ref (A (i + 14)), .ref (A (i + 15)), .ref (A (i + 16)), .int (iI (q 4))]) := by rw [hgg]; exact hO
      have h1 : gw (i + 1) = aJ E 40000 nf := by rw [hgg]; exact h1
      have hlm : lm (N a) k = ((dg v k : Nat) : Int) := by rw [hv]; exact lm_nat hv8 (by omega)
      have hdl := dg_lt v k
      refine lv_iload_n X.1 X.2.1 dX11_manyParts_3 rfl (lv_at hl 2 rfl) ?_
      refine x_if_le (tgt := 29) X ⟨by omega, by omega⟩ dX11_manyParts_4 (by decide) (fun b_4 => ?_) (fun b_4 => ?_)
      · refine lv_iload_n X.1 X.2.1 dX11_manyParts_29 rfl (lv_at hl 2 rfl) ?_
        refine x_iconst X dX11_manyParts_30 ?_
        refine x_iadd X dX11_manyParts_31 ?_
        refine x_seti (((k + 1 : Nat) : Int)) (by omega) ?_
        exact x_iret X hr hlk hW (⟨by rw [mp_end hv5 hk hz (by first | (left; omega) | (right; omega))], hgg⟩) dX11_manyParts_32
      · obtain ⟨t, ht⟩ : ∃ t, k = t + 1 := ⟨k - 1, by omega⟩
        refine lv_aload_n X.1 X.2.1 dX11_manyParts_7 rfl (lv_at hl 0 rfl) ?_
        refine x_get (C := RX11) (T := TX11) (N := 21) X hW (by omega) hO rfl lk_0 0 (by decide) lk_1 rfl dX11_manyParts_8 ?_
        refine x_bipush X (by decide) dX11_manyParts_11 ?_
        refine lv_iload_n X.1 X.2.1 dX11_manyParts_13 rfl (lv_at hl 1 rfl) ?_
        refine x_imul X dX11_manyParts_14 ?_
        refine lv_iload_n X.1 X.2.1 dX11_manyParts_15 rfl (lv_at hl 2 rfl) ?_
        refine x_iadd X dX11_manyParts_16 ?_
        refine x_lald X hW (by omega) h1 (v := lI (((dg v k : Nat) : Int))) (10 * a + k) (by omega) (by omega) (by decide) (((hN a ha).2.2 k (by omega)).trans (by rw [hlm])) dX11_manyParts_17 ?_
        refine x_lconst X 0 (by decide) dX11_manyParts_18 ?_
        refine x_lcmp_ne (tgt := 29) X ⟨by omega, by omega⟩ I64_0 dX11_manyParts_19 dX11_manyParts_20 (by decide) (fun b_19 => ?_) (fun b_19 => ?_)
        · refine lv_iload_n X.1 X.2.1 dX11_manyParts_29 rfl (lv_at hl 2 rfl) ?_
          refine x_iconst X dX11_manyParts_30 ?_
          refine x_iadd X dX11_manyParts_31 ?_
          refine x_seti (((k + 1 : Nat) : Int)) (by omega) ?_
          exact x_iret X hr hlk hW (⟨by rw [mp_end hv5 hk hz (by first | (left; omega) | (right; omega))], hgg⟩) dX11_manyParts_32
        · refine lv_iinc (v := iI ((t : Int))) (lv' := [(2, .int (iI ((t : Int)))), (0, .ref (A (i))), (1, .int (iI ((a : Int))))]) X.1 X.2.1 dX11_manyParts_23 hl (k := 2) rfl (by rw [show (Int32.ofInt (-1)) = iI (-1) from rfl, iI_add]; congr 1; omega) (by decide) rfl (fun ls hl => ?_)
          refine lv_goto (tgt := 3) X.1 X.2.1 dX11_manyParts_26 (by decide) ?_
          exact ih_3 t gw _ _ _ (by omega) (by omega) (mp_step (by rw [show t + 1 + 1 = k + 1 from by omega]; exact hz) (by rw [show t + 1 = k from by omega]; omega)) hgg hW (lv_sub hl [1, 2, 0] rfl)
  exact loop_3 _ 9 g _ _ _ (Nat.lt_succ_self _) (by omega) (Nat.div_eq_of_lt (Nat.lt_of_lt_of_le hv5 (by decide))) rfl hW (lv_sub hl [1, 2, 0] rfl)

set_option maxHeartbeats 4000000 in
set_option maxRecDepth 100000 in
/-- look -/
theorem c_X11_look (l : Launch) (E : wE) (A : Nat → Nat) (n sz : Nat) (g : Nat → va_E) (i : Nat) (q : Nat → Int) (N : Nat → Int) (w : Int) (tz : Int) (bz : Nat) (hi : i + 16 < n) (hO : g i = mO A i q) (hN : MN E A g i N) (ht : N 0 = tz) (hb : N 1 = (bz : Int)) (ht5 : tz.natAbs < 10 ^ 54) (hb5 : bz < 10 ^ 54) (hw : I32 w) : Met l yX11_look wsX11_look ({ frames := 5, cells := 0, slots := 0, locals := 180 } : Room) (va_Pc [.ref (A (i)), .int (iI (w))] (wPre E A n sz g)) (va_Qi (fun r g' => r = iI (if w = 0 then tz.sign else if w = 1 then ((pcN tz.natAbs : Nat) : Int) else if w = 2 then ((pcN bz : Nat) : Int) else -1) ∧ (∃ N' : Nat → Int, MN E A g' i N' ∧ ∀ x, x ≠ 2 → N' x = N x) ∧ ∀ j, j ≠ i + 1 → g' j = g j) (wAt E A n) (wF A n sz)) 0 0 (wF A n sz) := by
  refine x_met (cc := cX11_look) (maxL := 2) (ret := (some .int)) [.ref (A (i)), .int (iI (w))] (by decide) rfl (Nat.le_of_ble_eq_true rfl) ?_
  intro p e s m below meth c ls X hr hlk hnm hsz hW hl
  have hl : lv_has ls 2 [(0, .ref (A (i))), (1, .int (iI (w)))] := hl
  have hO : g i = .inr (11, [.ref (A (i + 1)), .ref (A (i + 2)), .ref (A (i + 3)), .ref (A (i + 4)), .int (iI (q 0)), .ref (A (i + 5)), .ref (A (i + 6)), .ref (A (i + 7)), .ref (A (i + 8)), .int (iI (q 1)), .ref (A (i + 9)), .ref (A (i + 10)), .ref (A (i + 11)), .int (iI (q 2)), .ref (A (i + 12)), .ref (A (i + 13)), .int (iI (q 3)), .ref (A (i + 14)), .ref (A (i + 15)), .ref (A (i + 16)), .int (iI (q 4))]) := hO
  have hOg := hO
  have hfr : ∀ j, j ≠ i + 1 → g j = g j := fun _ _ => rfl
  refine lv_aload_n X.1 X.2.1 dX11_look_0 rfl (lv_at hl 0 rfl) ?_
  refine x_cv (x_runV (k := 0) (As := []) (rest := []) X hW (c_X11_bare l E A n _ g i q N hi hO hN) (by omega) hO rfl gX11_look_X11_bare rfl rfl rfl (by decide +kernel) ⟨by decide, by decide⟩ rfl hl.1 rfl (Nat.le_of_ble_eq_true rfl) dX11_look_1 ⟨Nat.zero_le _, Nat.zero_le _⟩) hW (fun g_1 H locs hp_1 hW => ?_)
  obtain ⟨⟨N1, hN, v_2, hoth⟩, hf_1⟩ := hp_1
  have v_0 : N1 0 = tz := (hoth 0 (by omega)).trans ht
  have v_1 : N1 1 = (bz : Int) := (hoth 1 (by omega)).trans hb
  rw [ht] at v_2
  have hO : g_1 i = .inr (11, [.ref (A (i + 1)), .ref (A (i + 2)), .ref (A (i + 3)), .ref (A (i + 4)), .int (iI (q 0)), .ref (A (i + 5)), .ref (A (i + 6)), .ref (A (i + 7)), .ref (A (i + 8)), .int (iI (q 1)), .ref (A (i + 9)), .ref (A (i + 10)), .ref (A (i + 11)), .int (iI (q 2)), .ref (A (i + 12)), .ref (A (i + 13)), .int (iI (q 3)), .ref (A (i + 14)), .ref (A (i + 15)), .ref (A (i + 16)), .int (iI (q 4))]) := (hf_1 _ (by omega)).trans hOg
  refine lv_iload_n X.1 X.2.1 dX11_look_4 rfl (lv_at hl 1 rfl) ?_
  refine x_if_ne (tgt := 15) X hw dX11_look_5 (by decide) (fun b_5 => ?_) (fun b_5 => ?_)
  · refine lv_iload_n X.1 X.2.1 dX11_look_15 rfl (lv_at hl 1 rfl) ?_
    refine x_iconst X dX11_look_16 ?_
    refine x_icmp_ne (tgt := 28) X hw ⟨by decide, by decide⟩ dX11_look_17 (by decide) (fun b_17 => ?_) (fun b_17 => ?_)
    · refine lv_iload_n X.1 X.2.1 dX11_look_28 rfl (lv_at hl 1 rfl) ?_
      refine x_iconst X dX11_look_29 ?_
      refine x_icmp_ne (tgt := 41) X hw ⟨by decide, by decide⟩ dX11_look_30 (by decide) (fun b_30 => ?_) (fun b_30 => ?_)
      · refine x_iconst X dX11_look_41 ?_
        exact x_iret X hr hlk hW (⟨by first | rw [if_pos (by omega)] | rw [if_neg (by omega), if_pos (by omega)] | rw [if_neg (by omega), if_neg (by omega), if_pos (by omega)] | rw [if_neg (by omega), if_neg (by omega), if_neg (by omega)], ⟨N1, hN, hoth⟩, hf_1⟩) dX11_look_42
      · refine lv_aload_n X.1 X.2.1 dX11_look_33 rfl (lv_at hl 0 rfl) ?_
        refine x_iconst X dX11_look_34 ?_
        refine x_ci (x_runV (k := 1) (As := [.int (iI (1))]) (rest := []) X hW (c_X11_manyParts l E A n _ g_1 i 1 q N1 bz hi hO (by omega) hN v_1 hb5) (by omega) hO rfl gX11_look_X11_manyParts rfl rfl rfl (by decide +kernel) ⟨by decide, by decide⟩ rfl hl.1 rfl (Nat.le_of_ble_eq_true rfl) dX11_look_35 ⟨Nat.zero_le _, Nat.zero_le _⟩) hW (fun r_35 g_35 H locs hp_35 hW => ?_)
        obtain ⟨hr_35, he_35⟩ := hp_35
        rw [he_35] at hW
        subst hr_35
        refine lv_goto (tgt := 42) X.1 X.2.1 dX11_look_38 (by decide) ?_
        exact x_iret X hr hlk hW (⟨by first | rw [if_pos (by omega)] | rw [if_neg (by omega), if_pos (by omega)] | rw [if_neg (by omega), if_neg (by omega), if_pos (by omega)] | rw [if_neg (by omega), if_neg (by omega), if_neg (by omega)], ⟨N1, hN, hoth⟩, hf_1⟩) dX11_look_42
    · refine lv_aload_n X.1 X.2.1 dX11_look_20 rfl (lv_at hl 0 rfl) ?_
      refine x_iconst X dX11_look_21 ?_
      refine x_ci (x_runV (k := 1) (As := [.int (iI (2))]) (rest := []) X hW (c_X11_manyParts l E A n _ g_1 i 2 q N1 tz.natAbs hi hO (by omega) hN v_2 ht5) (by omega) hO rfl gX11_look_X11_manyParts rfl rfl rfl (by decide +kernel) ⟨by decide, by decide⟩ rfl hl.1 rfl (Nat.le_of_ble_eq_true rfl) dX11_look_22 ⟨Nat.zero_le _, Nat.zero_le _⟩) hW (fun r_22 g_22 H locs hp_22 hW => ?_)
      obtain ⟨hr_22, he_22⟩ := hp_22
      rw [he_22] at hW
      subst hr_22
      refine lv_goto (tgt := 42) X.1 X.2.1 dX11_look_25 (by decide) ?_
      exact x_iret X hr hlk hW (⟨by first | rw [if_pos (by omega)] | rw [if_neg (by omega), if_pos (by omega)] | rw [if_neg (by omega), if_neg (by omega), if_pos (by omega)] | rw [if_neg (by omega), if_neg (by omega), if_neg (by omega)], ⟨N1, hN, hoth⟩, hf_1⟩) dX11_look_42
  · refine lv_aload_n X.1 X.2.1 dX11_look_8 rfl (lv_at hl 0 rfl) ?_
    refine x_ci (x_runV (k := 0) (As := []) (rest := []) X hW (c_X11_sign l E A n _ g_1 i q N1 hi hO hN) (by omega) hO rfl gX11_look_X11_sign rfl rfl rfl (by decide +kernel) ⟨by decide, by decide⟩ rfl hl.1 rfl (Nat.le_of_ble_eq_true rfl) dX11_look_9 ⟨Nat.zero_le _, Nat.zero_le _⟩) hW (fun r_9 g_9 H locs hp_9 hW => ?_)
    obtain ⟨hr_9, he_9⟩ := hp_9
    rw [he_9] at hW
    subst hr_9
    rw [v_0]
    refine x_seti tz.sign rfl ?_
    refine lv_goto (tgt := 42) X.1 X.2.1 dX11_look_12 (by decide) ?_
    exact x_iret X hr hlk hW (⟨by first | rw [if_pos (by omega)] | rw [if_neg (by omega), if_pos (by omega)] | rw [if_neg (by omega), if_neg (by omega), if_pos (by omega)] | rw [if_neg (by omega), if_neg (by omega), if_neg (by omega)], ⟨N1, hN, hoth⟩, hf_1⟩) dX11_look_42

set_option maxHeartbeats 4000000 in
set_option maxRecDepth 100000 in
/-- part -/
theorem c_X11_part (l : Launch) (E : wE) (A : Nat → Nat) (n sz : Nat) (g : Nat → va_E) (i : Nat) (q : Nat → Int) (N : Nat → Int) (w z : Int) (tz : Int) (bz : Nat) (hi : i + 16 < n) (hO : g i = mO A i q) (hN : MN E A g i N) (ht : N 0 = tz) (hb : N 1 = (bz : Int)) (ht5 : tz.natAbs < 10 ^ 54) (hb5 : bz < 10 ^ 54) (hw : I32 w) (hz : I32 z) : Met l yX11_part wsX11_part ({ frames := 5, cells := 0, slots := 0, locals := 180 } : Room) (va_Pc [.ref (A (i)), .int (iI (w)), .int (iI (z))] (wPre E A n sz g)) (va_Qi (fun r g' => r = iI (if 0 ≤ z ∧ z ≤ 5 then ((dg (if w = 0 then tz.natAbs else bz) z.toNat : Nat) : Int) else 0) ∧ (∃ N' : Nat → Int, MN E A g' i N' ∧ ∀ x, x ≠ 2 → N' x = N x) ∧ ∀ j, j ≠ i + 1 → g' j = g j) (wAt E A n) (wF A n sz)) 0 0 (wF A n sz) := by
  refine x_met (cc := cX11_part) (maxL := 3) (ret := (some .int)) [.ref (A (i)), .int (iI (w)), .int (iI (z))] (by decide) rfl (Nat.le_of_ble_eq_true rfl) ?_
  intro p e s m below meth c ls X hr hlk hnm hsz hW hl
  have hl : lv_has ls 3 [(0, .ref (A (i))), (1, .int (iI (w))), (2, .int (iI (z)))] := hl
  have lk_0 : ∀ w ∈ wsX110, w ∈ wsX11_part := by decide +kernel
  have lk_1 : Cond.fieldLink RX11 10 (TX11 0).1 (TX11 0).2.1 (TX11 0).2.2.1 ∈ wsX11_part := by decide +kernel
  have hO : g i = .inr (11, [.ref (A (i + 1)), .ref (A (i + 2)), .ref (A (i + 3)), .ref (A (i + 4)), .int (iI (q 0)), .ref (A (i + 5)), .ref (A (i + 6)), .ref (A (i + 7)), .ref (A (i + 8)), .int (iI (q 1)), .ref (A (i + 9)), .ref (A (i + 10)), .ref (A (i + 11)), .int (iI (q 2)), .ref (A (i + 12)), .ref (A (i + 13)), .int (iI (q 3)), .ref (A (i + 14)), .ref (A (i + 15)), .ref (A (i + 16)), .int (iI (q 4))]) := hO
  have hOg := hO
  have hfr : ∀ j, j ≠ i + 1 → g j = g j := fun _ _ => rfl
  refine lv_aload_n X.1 X.2.1 dX11_part_0 rfl (lv_at hl 0 rfl) ?_
  refine x_cv (x_runV (k := 0) (As := []) (rest := []) X hW (c_X11_bare l E A n _ g i q N hi hO hN) (by omega) hO rfl gX11_part_X11_bare rfl rfl rfl (by decide +kernel) ⟨by decide, by decide⟩ rfl hl.1 rfl (Nat.le_of_ble_eq_true rfl) dX11_part_1 ⟨Nat.zero_le _, Nat.zero_le _⟩) hW (fun g_1 H locs hp_1 hW => ?_)
  obtain ⟨⟨N1, hN, v_2, hoth⟩, hf_1⟩ := hp_1
  have v_0 : N1 0 = tz := (hoth 0 (by omega)).trans ht
  have v_1 : N1 1 = (bz : Int) := (hoth 1 (by omega)).trans hb
  rw [ht] at v_2
  have hO : g_1 i = .inr (11, [.ref (A (i + 1)), .ref (A (i + 2)), .ref (A (i + 3)), .ref (A (i + 4)), .int (iI (q 0)), .ref (A (i + 5)), .ref (A (i + 6)), .ref (A (i + 7)), .ref (A (i + 8)), .int (iI (q 1)), .ref (A (i + 9)), .ref (A (i + 10)), .ref (A (i + 11)), .int (iI (q 2)), .ref (A (i + 12)), .ref (A (i + 13)), .int (iI (q 3)), .ref (A (i + 14)), .ref (A (i + 15)), .ref (A (i + 16)), .int (iI (q 4))]) := (hf_1 _ (by omega)).trans hOg
  refine lv_iload_n X.1 X.2.1 dX11_part_4 rfl (lv_at hl 2 rfl) ?_
  refine x_if_lt (tgt := 14) X hz dX11_part_5 (by decide) (fun b_5 => ?_) (fun b_5 => ?_)
  · refine x_iconst X dX11_part_14 ?_
    refine lv_goto (tgt := 38) X.1 X.2.1 dX11_part_15 (by decide) ?_
    exact x_iret X hr hlk hW (⟨by rw [if_neg (by omega)], ⟨N1, hN, hoth⟩, hf_1⟩) dX11_part_38
  · refine lv_iload_n X.1 X.2.1 dX11_part_8 rfl (lv_at hl 2 rfl) ?_
    refine x_bipush X (by decide) dX11_part_9 ?_
    refine x_icmp_lt (tgt := 18) X hz ⟨by decide, by decide⟩ dX11_part_11 (by decide) (fun b_11 => ?_) (fun b_11 => ?_)
    · obtain ⟨nf, h1, hNv⟩ := id hN
      refine lv_aload_n X.1 X.2.1 dX11_part_18 rfl (lv_at hl 0 rfl) ?_
      refine x_get (C := RX11) (T := TX11) (N := 21) X hW (by omega) hO rfl lk_0 0 (by decide) lk_1 rfl dX11_part_19 ?_
      refine x_bipush X (by decide) dX11_part_22 ?_
      refine lv_iload_n X.1 X.2.1 dX11_part_24 rfl (lv_at hl 1 rfl) ?_
      refine x_if_eq (tgt := 32) X hw dX11_part_25 (by decide) (fun b_25 => ?_) (fun b_25 => ?_)
      · refine x_iconst X dX11_part_32 ?_
        refine x_imul X dX11_part_33 ?_
        refine lv_iload_n X.1 X.2.1 dX11_part_34 rfl (lv_at hl 2 rfl) ?_
        refine x_iadd X dX11_part_35 ?_
        refine x_lald X hW (by omega) h1 (v := lI (((dg tz.natAbs z.toNat : Nat) : Int))) (10 * 2 + z.toNat) (by omega) (by omega) (by decide) (((hNv 2 (by omega)).2.2 z.toNat (by omega)).trans (by rw [v_2, lm_nat (by omega) (by omega)])) dX11_part_36 ?_
        refine x_l2i X dX11_part_37 ?_
        exact x_iret X hr hlk hW (⟨by rw [if_pos (show w = 0 by omega)]; by_cases h5 : z ≤ 5; rw [if_pos (by omega)]; rw [if_neg (by omega), dg_hi ht5 (by omega)]; rfl, ⟨N1, hN, hoth⟩, hf_1⟩) dX11_part_38
      · refine x_iconst X dX11_part_28 ?_
        refine lv_goto (tgt := 33) X.1 X.2.1 dX11_part_29 (by decide) ?_
        refine x_imul X dX11_part_33 ?_
        refine lv_iload_n X.1 X.2.1 dX11_part_34 rfl (lv_at hl 2 rfl) ?_
        refine x_iadd X dX11_part_35 ?_
        refine x_lald X hW (by omega) h1 (v := lI (((dg bz z.toNat : Nat) : Int))) (10 * 1 + z.toNat) (by omega) (by omega) (by decide) (((hNv 1 (by omega)).2.2 z.toNat (by omega)).trans (by rw [v_1, lm_nat (by omega) (by omega)])) dX11_part_36 ?_
        refine x_l2i X dX11_part_37 ?_
        exact x_iret X hr hlk hW (⟨by rw [if_neg (show ¬ w = 0 by omega)]; by_cases h5 : z ≤ 5; rw [if_pos (by omega)]; rw [if_neg (by omega), dg_hi hb5 (by omega)]; rfl, ⟨N1, hN, hoth⟩, hf_1⟩) dX11_part_38
    · refine x_iconst X dX11_part_14 ?_
      refine lv_goto (tgt := 38) X.1 X.2.1 dX11_part_15 (by decide) ?_
      exact x_iret X hr hlk hW (⟨by rw [if_neg (by omega)], ⟨N1, hN, hoth⟩, hf_1⟩) dX11_part_38

set_option maxHeartbeats 4000000 in
set_option maxRecDepth 100000 in
/-- compare -/
theorem c_X11_compare (l : Launch) (E : wE) (A : Nat → Nat) (n sz : Nat) (g : Nat → va_E) (i : Nat) (q : Nat → Int) (N : Nat → Int) (a b : Int) (tz : Int) (bz : Nat) (hi : i + 16 < n) (hO : g i = mO A i q) (hN : MN E A g i N) (ht : N 0 = tz) (hb : N 1 = (bz : Int)) (ht5 : tz.natAbs < 10 ^ 54) (hb5 : bz < 10 ^ 54) (ha : I32 a) (hb3 : I32 b) : Met l yX11_compare wsX11_compare ({ frames := 4, cells := 0, slots := 0, locals := 160 } : Room) (va_Pc [.ref (A (i)), .int (iI (a)), .int (iI (b))] (wPre E A n sz g)) (va_Qi (fun r g' => r = iI (if b < 1 then -2 else if tz * b < a * (bz : Int) then -1 else if tz * b = a * (bz : Int) then 0 else 1) ∧ (∃ N' : Nat → Int, MN E A g' i N' ∧ ∀ x, (x ≠ 2 ∧ x ≠ 3) → N' x = N x) ∧ ∀ j, j ≠ i + 1 → g' j = g j) (wAt E A n) (wF A n sz)) 0 0 (wF A n sz) := by
  refine x_met (cc := cX11_compare) (maxL := 3) (ret := (some .int)) [.ref (A (i)), .int (iI (a)), .int (iI (b))] (by decide) rfl (Nat.le_of_ble_eq_true rfl) ?_
  intro p e s m below meth c ls X hr hlk hnm hsz hW hl
  have hl : lv_has ls 3 [(0, .ref (A (i))), (1, .int (iI (a))), (2, .int (iI (b)))] := hl
  have hO : g i = .inr (11, [.ref (A (i + 1)), .ref (A (i + 2)), .ref (A (i + 3)), .ref (A (i + 4)), .int (iI (q 0)), .ref (A (i + 5)), .ref (A (i + 6)), .ref (A (i + 7)), .ref (A (i + 8)), .int (iI (q 1)), .ref (A (i + 9)), .ref (A (i + 10)), .ref (A (i + 11)), .int (iI (q 2)), .ref (A (i + 12)), .ref (A (i + 13)), .int (iI (q 3)), .ref (A (i + 14)), .ref (A (i + 15)), .ref (A (i + 16)), .int (iI (q 4))]) := hO
  have hOg := hO
  have hfr : ∀ j, j ≠ i + 1 → g j = g j := fun _ _ => rfl
  have hoth : ∀ x, (x ≠ 2 ∧ x ≠ 3) → N x = N x := fun _ _ => rfl
  have v_0 := ht
  have v_1 := hb
  have ha1 := ha.1
  have ha2 := ha.2
  have hb1 := hb3.1
  have hb2 := hb3.2
  refine lv_iload_n X.1 X.2.1 dX11_compare_0 rfl (lv_at hl 2 rfl) ?_
  refine x_iconst X dX11_compare_1 ?_
  refine x_icmp_ge (tgt := 8) X hb3 ⟨by decide, by decide⟩ dX11_compare_2 (by decide) (fun b_2 => ?_) (fun b_2 => ?_)
  · have hm1 := mul_rng (a := tz) (b := b) (10 ^ 54) 2147483648 (by omega) (by omega) (by omega) (by omega)
    have hm2 := mul_rng (a := (bz : Int)) (b := a) (10 ^ 54) 2147483648 (by omega) (by omega) (by omega) (by omega)
    refine lv_aload_n X.1 X.2.1 dX11_compare_8 rfl (lv_at hl 0 rfl) ?_
    refine x_iconst X dX11_compare_9 ?_
    refine x_iconst X dX11_compare_10 ?_
    refine x_cv (x_runV (k := 2) (As := [.int (iI (2)), .int (iI (0))]) (rest := []) X hW (c_X11_copy l E A n _ g i (2) (0) q N hi hO (by omega) (by omega) (by omega) hN) (by omega) hO rfl gX11_compare_X11_copy rfl rfl rfl (by decide +kernel) ⟨by decide, by decide⟩ rfl hl.1 rfl (Nat.le_of_ble_eq_true rfl) dX11_compare_11 ⟨Nat.zero_le _, Nat.zero_le _⟩) hW (fun g_11 H locs hp_11 hW => ?_)
    obtain ⟨hN, hf_11⟩ := hp_11
    obtain ⟨N_11, hN_11⟩ : ∃ N9 : Nat → Int, N9 = va_up N 2 (N (0)) := ⟨_, rfl⟩
    rw [← hN_11] at hN
    have hO : g_11 i = .inr (11, [.ref (A (i + 1)), .ref (A (i + 2)), .ref (A (i + 3)), .ref (A (i + 4)), .int (iI (q 0)), .ref (A (i + 5)), .ref (A (i + 6)), .ref (A (i + 7)), .ref (A (i + 8)), .int (iI (q 1)), .ref (A (i + 9)), .ref (A (i + 10)), .ref (A (i + 11)), .int (iI (q 2)), .ref (A (i + 12)), .ref (A (i + 13)), .int (iI (q 3)), .ref (A (i + 14)), .ref (A (i + 15)), .ref (A (i + 16)), .int (iI (q 4))]) := by rw [hf_11 _ (by omega)]; exact hO
    have v_2 : N_11 2 = tz := by rw [hN_11, va_up_self, v_0]
    have v_0 : N_11 0 = tz := by rw [hN_11, va_up_ne _ _ (by omega)]; exact v_0
    have v_1 : N_11 1 = (bz : Int) := by rw [hN_11, va_up_ne _ _ (by omega)]; exact v_1
    have hoth : ∀ x, (x ≠ 2 ∧ x ≠ 3) → N_11 x = N x := fun x hx => (congrFun hN_11 x).trans ((va_up_ne _ _ (by omega)).trans (hoth x hx))
    have hfr : ∀ j, j ≠ i + 1 → g_11 j = g j := fun j hj => (hf_11 j hj).trans (hfr j hj)
    refine lv_aload_n X.1 X.2.1 dX11_compare_14 rfl (lv_at hl 0 rfl) ?_
    refine x_iconst X dX11_compare_15 ?_
    refine lv_iload_n X.1 X.2.1 dX11_compare_16 rfl (lv_at hl 2 rfl) ?_
    refine x_i2l X hb3 dX11_compare_17 ?_
    refine x_cv (x_runV (k := 2) (As := [.int (iI (2)), .long (lI (b))]) (rest := []) X hW (c_X11_times l E A n _ g_11 i (2) q N_11 (b) hi hO (by omega) hN (by omega) (by omega) (by rw [v_2]; omega) (by rw [v_2]; omega)) (by omega) hO rfl gX11_compare_X11_times rfl rfl rfl (by decide +kernel) ⟨by decide, by decide⟩ rfl hl.1 rfl (Nat.le_of_ble_eq_true rfl) dX11_compare_18 ⟨Nat.zero_le _, Nat.zero_le _⟩) hW (fun g_18 H locs hp_18 hW => ?_)
    obtain ⟨hN, hf_18⟩ := hp_18
    obtain ⟨N_18, hN_18⟩ : ∃ N9 : Nat → Int, N9 = va_up N_11 2 (N_11 2 * b) := ⟨_, rfl⟩
    rw [← hN_18] at hN
    have hO : g_18 i = .inr (11, [.ref (A (i + 1)), .ref (A (i + 2)), .ref (A (i + 3)), .ref (A (i + 4)), .int (iI (q 0)), .ref (A (i + 5)), .ref (A (i + 6)), .ref (A (i + 7)), .ref (A (i + 8)), .int (iI (q 1)), .ref (A (i + 9)), .ref (A (i + 10)), .ref (A (i + 11)), .int (iI (q 2)), .ref (A (i + 12)), .ref (A (i + 13)), .int (iI (q 3)), .ref (A (i + 14)), .ref (A (i + 15)), .ref (A (i + 16)), .int (iI (q 4))]) := by rw [hf_18 _ (by omega)]; exact hO
    have v_2 : N_18 2 = tz * b := by rw [hN_18, va_up_self, v_2]
    have v_0 : N_18 0 = tz := by rw [hN_18, va_up_ne _ _ (by omega)]; exact v_0
    have v_1 : N_18 1 = (bz : Int) := by rw [hN_18, va_up_ne _ _ (by omega)]; exact v_1
    have hoth : ∀ x, (x ≠ 2 ∧ x ≠ 3) → N_18 x = N x := fun x hx => (congrFun hN_18 x).trans ((va_up_ne _ _ (by omega)).trans (hoth x hx))
    have hfr : ∀ j, j ≠ i + 1 → g_18 j = g j := fun j hj => (hf_18 j hj).trans (hfr j hj)
    refine lv_aload_n X.1 X.2.1 dX11_compare_21 rfl (lv_at hl 0 rfl) ?_
    refine x_iconst X dX11_compare_22 ?_
    refine x_iconst X dX11_compare_23 ?_
    refine x_cv (x_runV (k := 2) (As := [.int (iI (3)), .int (iI (1))]) (rest := []) X hW (c_X11_copy l E A n _ g_18 i (3) (1) q N_18 hi hO (by omega) (by omega) (by omega) hN) (by omega) hO rfl gX11_compare_X11_copy rfl rfl rfl (by decide +kernel) ⟨by decide, by decide⟩ rfl hl.1 rfl (Nat.le_of_ble_eq_true rfl) dX11_compare_24 ⟨Nat.zero_le _, Nat.zero_le _⟩) hW (fun g_24 H locs hp_24 hW => ?_)
    obtain ⟨hN, hf_24⟩ := hp_24
    obtain ⟨N_24, hN_24⟩ : ∃ N9 : Nat → Int, N9 = va_up N_18 3 (N_18 (1)) := ⟨_, rfl⟩
    rw [← hN_24] at hN
    have hO : g_24 i = .inr (11, [.ref (A (i + 1)), .ref (A (i + 2)), .ref (A (i + 3)), .ref (A (i + 4)), .int (iI (q 0)), .ref (A (i + 5)), .ref (A (i + 6)), .ref (A (i + 7)), .ref (A (i + 8)), .int (iI (q 1)), .ref (A (i + 9)), .ref (A (i + 10)), .ref (A (i + 11)), .int (iI (q 2)), .ref (A (i + 12)), .ref (A (i + 13)), .int (iI (q 3)), .ref (A (i + 14)), .ref (A (i + 15)), .ref (A (i + 16)), .int (iI (q 4))]) := by rw [hf_24 _ (by omega)]; exact hO
    have v_3 : N_24 3 = (bz : Int) := by rw [hN_24, va_up_self, v_1]
    have v_0 : N_24 0 = tz := by rw [hN_24, va_up_ne _ _ (by omega)]; exact v_0
    have v_1 : N_24 1 = (bz : Int) := by rw [hN_24, va_up_ne _ _ (by omega)]; exact v_1
    have v_2 : N_24 2 = tz * b := by rw [hN_24, va_up_ne _ _ (by omega)]; exact v_2
    have hoth : ∀ x, (x ≠ 2 ∧ x ≠ 3) → N_24 x = N x := fun x hx => (congrFun hN_24 x).trans ((va_up_ne _ _ (by omega)).trans (hoth x hx))
    have hfr : ∀ j, j ≠ i + 1 → g_24 j = g j := fun j hj => (hf_24 j hj).trans (hfr j hj)
    refine lv_aload_n X.1 X.2.1 dX11_compare_27 rfl (lv_at hl 0 rfl) ?_
    refine x_iconst X dX11_compare_28 ?_
    refine lv_iload_n X.1 X.2.1 dX11_compare_29 rfl (lv_at hl 1 rfl) ?_
    refine x_i2l X ha dX11_compare_30 ?_
    refine x_cv (x_runV (k := 2) (As := [.int (iI (3)), .long (lI (a))]) (rest := []) X hW (c_X11_times l E A n _ g_24 i (3) q N_24 (a) hi hO (by omega) hN (by omega) (by omega) (by rw [v_3]; omega) (by rw [v_3]; omega)) (by omega) hO rfl gX11_compare_X11_times rfl rfl rfl (by decide +kernel) ⟨by decide, by decide⟩ rfl hl.1 rfl (Nat.le_of_ble_eq_true rfl) dX11_compare_31 ⟨Nat.zero_le _, Nat.zero_le _⟩) hW (fun g_31 H locs hp_31 hW => ?_)
    obtain ⟨hN, hf_31⟩ := hp_31
    obtain ⟨N_31, hN_31⟩ : ∃ N9 : Nat → Int, N9 = va_up N_24 3 (N_24 3 * a) := ⟨_, rfl⟩
    rw [← hN_31] at hN
    have hO : g_31 i = .inr (11, [.ref (A (i + 1)), .ref (A (i + 2)), .ref (A (i + 3)), .ref (A (i + 4)), .int (iI (q 0)), .ref (A (i + 5)), .ref (A (i + 6)), .ref (A (i + 7)), .ref (A (i + 8)), .int (iI (q 1)), .ref (A (i + 9)), .ref (A (i + 10)), .ref (A (i + 11)), .int (iI (q 2)), .ref (A (i + 12)), .ref (A (i + 13)), .int (iI (q 3)), .ref (A (i + 14)), .ref (A (i + 15)), .ref (A (i + 16)), .int (iI (q 4))]) := by rw [hf_31 _ (by omega)]; exact hO
    have v_3 : N_31 3 = a * (bz : Int) := by rw [hN_31, va_up_self, v_3, Int.mul_comm]
    have v_0 : N_31 0 = tz := by rw [hN_31, va_up_ne _ _ (by omega)]; exact v_0
    have v_1 : N_31 1 = (bz : Int) := by rw [hN_31, va_up_ne _ _ (by omega)]; exact v_1
    have v_2 : N_31 2 = tz * b := by rw [hN_31, va_up_ne _ _ (by omega)]; exact v_2
    have hoth : ∀ x, (x ≠ 2 ∧ x ≠ 3) → N_31 x = N x := fun x hx => (congrFun hN_31 x).trans ((va_up_ne _ _ (by omega)).trans (hoth x hx))
    have hfr : ∀ j, j ≠ i + 1 → g_31 j = g j := fun j hj => (hf_31 j hj).trans (hfr j hj)
    refine lv_aload_n X.1 X.2.1 dX11_compare_34 rfl (lv_at hl 0 rfl) ?_
    refine x_iconst X dX11_compare_35 ?_
    refine x_iconst X dX11_compare_36 ?_
    refine x_ci (x_runV (k := 2) (As := [.int (iI (2)), .int (iI (3))]) (rest := []) X hW (c_X11_compared l E A n _ g_31 i (2) (3) q N_31 hi hO (by omega) (by omega) hN) (by omega) hO rfl gX11_compare_X11_compared rfl rfl rfl (by decide +kernel) ⟨by decide, by decide⟩ rfl hl.1 rfl (Nat.le_of_ble_eq_true rfl) dX11_compare_37 ⟨Nat.zero_le _, Nat.zero_le _⟩) hW (fun r_37 g_37 H locs hp_37 hW => ?_)
    obtain ⟨hr_37, he_37⟩ := hp_37
    rw [he_37] at hW
    rw [v_2, v_3] at hr_37
    subst hr_37
    exact x_iret X hr hlk hW (⟨by rw [if_neg (show ¬ b < 1 by omega)], ⟨N_31, hN, hoth⟩, hfr⟩) dX11_compare_40
  · refine x_bipush X (by decide) dX11_compare_5 ?_
    exact x_iret X hr hlk hW (⟨by rw [if_pos (by omega)], ⟨N, hN, hoth⟩, hfr⟩) dX11_compare_7
