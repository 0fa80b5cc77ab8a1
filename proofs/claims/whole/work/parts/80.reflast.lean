/-! ===== the reference: last ===== -/
theorem hp_cap3 {ta tb : Nat → Nat} {hz : Nat} (h : ∀ k, k < hz → ta k ≤ tb k ∧ 1 ≤ tb k ∧ tb k ≤ 100) (hz2 : hz ≤ 20) {d u : Nat} (hd : d + u ≤ hz) : hpW ta tb hz d * pr tb u ≤ 10 ^ 40 := by
  have h1 := (hp_cap h d (by omega)).1
  have h2 : pr tb u ≤ 100 ^ u := pr_le u (fun j hj => (h j (by omega)).2.2)
  refine Nat.le_trans (Nat.mul_le_mul (show hpW ta tb hz d ≤ 100 ^ d by omega) h2) ?_
  rw [← Nat.pow_add]
  exact pow100 (by omega)
theorem hp_step {ta tb : Nat → Nat} {hz d k : Nat} (hk : hz = k + 1 + d) : hpW ta tb hz (d + 1) = hpW ta tb hz d * (tb k - ta k) + hpQ ta tb hz d * ta k ∧ hpQ ta tb hz (d + 1) = hpQ ta tb hz d * (tb k - ta k) := by
  have e : hz - 1 - d = k := by omega
  constructor
  · show hpW ta tb hz d * (tb (hz - 1 - d) - ta (hz - 1 - d)) + hpQ ta tb hz d * ta (hz - 1 - d) = _
    rw [e]
  · show hpQ ta tb hz d * (tb (hz - 1 - d) - ta (hz - 1 - d)) = _
    rw [e]
theorem hp_take {ta tb : Nat → Nat} {hz d k : Nat} (hk : hz = k + 1 + d) (h : hpM ta tb hz d * tb k < hpW ta tb hz (d + 1)) : hpM ta tb hz (d + 1) = hpW ta tb hz (d + 1) ∧ hpS ta tb hz (d + 1) = k := by
  have e : hz - 1 - d = k := by omega
  constructor
  · show (if hpM ta tb hz d * tb (hz - 1 - d) < hpW ta tb hz (d + 1) then hpW ta tb hz (d + 1) else hpM ta tb hz d * tb (hz - 1 - d)) = _
    rw [e, if_pos h]
  · show (if hpM ta tb hz d * tb (hz - 1 - d) < hpW ta tb hz (d + 1) then hz - 1 - d else hpS ta tb hz d) = _
    rw [e, if_pos h]
theorem hp_keep {ta tb : Nat → Nat} {hz d k : Nat} (hk : hz = k + 1 + d) (h : ¬ hpM ta tb hz d * tb k < hpW ta tb hz (d + 1)) : hpM ta tb hz (d + 1) = hpM ta tb hz d * tb k ∧ hpS ta tb hz (d + 1) = hpS ta tb hz d := by
  have e : hz - 1 - d = k := by omega
  constructor
  · show (if hpM ta tb hz d * tb (hz - 1 - d) < hpW ta tb hz (d + 1) then hpW ta tb hz (d + 1) else hpM ta tb hz d * tb (hz - 1 - d)) = _
    rw [e, if_neg h]
  · show (if hpM ta tb hz d * tb (hz - 1 - d) < hpW ta tb hz (d + 1) then hz - 1 - d else hpS ta tb hz d) = _
    rw [e, if_neg h]
theorem hp_first {ta tb : Nat → Nat} {hz d k : Nat} (hk : hz = k + 1 + d) (hd : d = 0) : hpM ta tb hz (d + 1) = hpW ta tb hz (d + 1) ∧ hpS ta tb hz (d + 1) = k := by
  by_cases h : hpM ta tb hz d * tb k < hpW ta tb hz (d + 1)
  · exact hp_take hk h
  · obtain ⟨a, b⟩ := hp_keep hk h
    have e : hpM ta tb hz d = 0 := by rw [hd]; rfl
    rw [e, Nat.zero_mul] at h a
    refine ⟨by omega, ?_⟩
    rw [b, hd]
    show hz - 1 = k
    omega
theorem hp_more {ta tb : Nat → Nat} {hz d k : Nat} (hk : hz = k + 1 + d) (hp : 0 < pr tb k) (h : hpM ta tb hz d * pr tb (k + 1) < hpW ta tb hz (d + 1) * pr tb k) : hpM ta tb hz d * tb k < hpW ta tb hz (d + 1) := by
  rw [show pr tb (k + 1) = pr tb k * tb k from rfl, Nat.mul_comm (pr tb k), ← Nat.mul_assoc] at h
  exact Nat.lt_of_mul_lt_mul_right h
theorem hp_less {ta tb : Nat → Nat} {hz d k : Nat} (hk : hz = k + 1 + d) (h : hpW ta tb hz (d + 1) * pr tb k ≤ hpM ta tb hz d * pr tb (k + 1)) (hp : 0 < pr tb k) : ¬ hpM ta tb hz d * tb k < hpW ta tb hz (d + 1) := by
  intro hc
  have := Nat.mul_lt_mul_of_pos_right hc hp
  rw [show pr tb (k + 1) = pr tb k * tb k from rfl, Nat.mul_comm (pr tb k) (tb k), ← Nat.mul_assoc] at h
  omega

set_option maxHeartbeats 4000000 in
set_option maxRecDepth 100000 in
/-- last -/
theorem c_X11_last (l : Launch) (E : wE) (A : Nat → Nat) (n sz : Nat) (g : Nat → va_E) (i : Nat) (q : Nat → Int) (N : Nat → Int) (hz : Nat) (ta tb : Nat → Nat) (hi : i + 16 < n) (hO : g i = mO A i q) (hN : MN E A g i N) (hq2 : q 2 = (hz : Int)) (hH : HapM E A g i hz ta tb) : Met l yX11_last wsX11_last ({ frames := 7, cells := 0, slots := 0, locals := 260 } : Room) (va_Pc [.ref (A (i))] (wPre E A n sz g)) (va_Qi (fun r g' => (hz = 0 → r = iI (-1) ∧ g' = g) ∧ (0 < hz → r = iI ((hpS ta tb hz hz : Nat) : Int) ∧ MR E A g' i (rdT ((hpM ta tb hz hz : Nat) : Int) (pr tb hz)) (rdB ((hpM ta tb hz hz : Nat) : Int) (pr tb hz))) ∧ ∀ j, j ≠ i + 1 → g' j = g j) (wAt E A n) (wF A n sz)) 0 0 (wF A n sz) := by
  refine x_met (cc := cX11_last) (maxL := 6) (ret := (some .int)) [.ref (A (i))] (by decide) rfl (Nat.le_of_ble_eq_true rfl) ?_
  intro p_ e_ s_ m_ below meth c_ ls X hr hlk hnm hsz hW hl
  have hl : lv_has ls 6 [(0, .ref (A (i)))] := hl
  have lk_0 : ∀ w ∈ wsX110, w ∈ wsX11_last := by decide +kernel
  have lk_1 : Cond.fieldLink RX11 169 (TX11 13).1 (TX11 13).2.1 (TX11 13).2.2.1 ∈ wsX11_last := by decide +kernel
  have lk_2 : Cond.fieldLink RX11 48 (TX11 15).1 (TX11 15).2.1 (TX11 15).2.2.1 ∈ wsX11_last := by decide +kernel
  have lk_3 : Cond.fieldLink RX11 45 (TX11 14).1 (TX11 14).2.1 (TX11 14).2.2.1 ∈ wsX11_last := by decide +kernel
  have hO : g i = .inr (11, [.ref (A (i + 1)), .ref (A (i + 2)), .ref (A (i + 3)), .ref (A (i + 4)), .int (iI (q 0)), .ref (A (i + 5)), .ref (A (i + 6)), .ref (A (i + 7)), .ref (A (i + 8)), .int (iI (q 1)), .ref (A (i + 9)), .ref (A (i + 10)), .ref (A (i + 11)), .int (iI (q 2)), .ref (A (i + 12)), .ref (A (i + 13)), .int (iI (q 3)), .ref (A (i + 14)), .ref (A (i + 15)), .ref (A (i + 16)), .int (iI (q 4))]) := hO
  have hOg := hO
  have hfr : ∀ j, j ≠ i + 1 → g j = g j := fun _ _ => rfl
  obtain ⟨fa, fb, h12, h13, hc20, hv⟩ := hH
  have h12o := h12
  have h13o := h13
  have hv0 : ∀ k, k < hz → ta k ≤ tb k ∧ 1 ≤ tb k ∧ tb k ≤ 100 := fun k hk => (hv k hk).1
  refine lv_aload_n X.1 X.2.1 dX11_last_0 rfl (lv_at hl 0 rfl) ?_
  refine x_get (C := RX11) (T := TX11) (N := 21) X hW (by omega) hO rfl lk_0 13 (by decide) lk_1 rfl dX11_last_1 ?_
  refine x_seti ((hz : Int)) hq2 ?_
  refine x_if_ne (tgt := 9) X ⟨by omega, by omega⟩ dX11_last_4 (by decide) (fun b_4 => ?_) (fun b_4 => ?_)
  · refine x_iconst X dX11_last_9 ?_
    refine lv_istore_n (lv' := [(1, .int (iI ((-1)))), (0, .ref (A (i)))]) X.1 X.2.1 dX11_last_10 rfl hl (by decide) rfl (fun ls hl => ?_)
    refine lv_aload_n X.1 X.2.1 dX11_last_11 rfl (lv_at hl 1 rfl) ?_
    refine x_iconst X dX11_last_12 ?_
    refine x_lconst X 1 (by decide) dX11_last_13 ?_
    refine x_cv (x_runV (k := 2) (As := [.int (iI (2)), .long (lI (1))]) (rest := []) X hW (c_X11_set l E A n _ g i (2) q N (1) hi hO (by omega) hN (by decide) (by decide)) (by omega) hO rfl gX11_last_X11_set rfl rfl rfl (by decide +kernel) ⟨by decide, by decide⟩ rfl hl.1 rfl (Nat.le_of_ble_eq_true rfl) dX11_last_14 ⟨Nat.zero_le _, Nat.zero_le _⟩) hW (fun g_14 H locs hp_14 hW => ?_)
    obtain ⟨hN, hf_14⟩ := hp_14
    obtain ⟨N_14, hN_14⟩ : ∃ N9 : Nat → Int, N9 = va_up N 2 (1) := ⟨_, rfl⟩
    rw [← hN_14] at hN
    have hO : g_14 i = .inr (11, [.ref (A (i + 1)), .ref (A (i + 2)), .ref (A (i + 3)), .ref (A (i + 4)), .int (iI (q 0)), .ref (A (i + 5)), .ref (A (i + 6)), .ref (A (i + 7)), .ref (A (i + 8)), .int (iI (q 1)), .ref (A (i + 9)), .ref (A (i + 10)), .ref (A (i + 11)), .int (iI (q 2)), .ref (A (i + 12)), .ref (A (i + 13)), .int (iI (q 3)), .ref (A (i + 14)), .ref (A (i + 15)), .ref (A (i + 16)), .int (iI (q 4))]) := by rw [hf_14 _ (by omega)]; exact hO
    have h12 : g_14 (i + 12) = aI E 20 fa := by rw [hf_14 _ (by omega)]; exact h12
    have h13 : g_14 (i + 13) = aI E 20 fb := by rw [hf_14 _ (by omega)]; exact h13
    have v_2 : N_14 2 = 1 := by rw [hN_14, va_up_self]
    have hfr : ∀ j, j ≠ i + 1 → g_14 j = g j := fun j hj => (hf_14 j hj).trans (hfr j hj)
    refine lv_aload_n X.1 X.2.1 dX11_last_17 rfl (lv_at hl 1 rfl) ?_
    refine x_iconst X dX11_last_18 ?_
    refine x_lconst X 0 (by decide) dX11_last_19 ?_
    refine x_cv (x_runV (k := 2) (As := [.int (iI (3)), .long (lI (0))]) (rest := []) X hW (c_X11_set l E A n _ g_14 i (3) q N_14 (0) hi hO (by omega) hN (by decide) (by decide)) (by omega) hO rfl gX11_last_X11_set rfl rfl rfl (by decide +kernel) ⟨by decide, by decide⟩ rfl hl.1 rfl (Nat.le_of_ble_eq_true rfl) dX11_last_20 ⟨Nat.zero_le _, Nat.zero_le _⟩) hW (fun g_20 H locs hp_20 hW => ?_)
    obtain ⟨hN, hf_20⟩ := hp_20
    obtain ⟨N_20, hN_20⟩ : ∃ N9 : Nat → Int, N9 = va_up N_14 3 (0) := ⟨_, rfl⟩
    rw [← hN_20] at hN
    have hO : g_20 i = .inr (11, [.ref (A (i + 1)), .ref (A (i + 2)), .ref (A (i + 3)), .ref (A (i + 4)), .int (iI (q 0)), .ref (A (i + 5)), .ref (A (i + 6)), .ref (A (i + 7)), .ref (A (i + 8)), .int (iI (q 1)), .ref (A (i + 9)), .ref (A (i + 10)), .ref (A (i + 11)), .int (iI (q 2)), .ref (A (i + 12)), .ref (A (i + 13)), .int (iI (q 3)), .ref (A (i + 14)), .ref (A (i + 15)), .ref (A (i + 16)), .int (iI (q 4))]) := by rw [hf_20 _ (by omega)]; exact hO
    have h12 : g_20 (i + 12) = aI E 20 fa := by rw [hf_20 _ (by omega)]; exact h12
    have h13 : g_20 (i + 13) = aI E 20 fb := by rw [hf_20 _ (by omega)]; exact h13
    have v_3 : N_20 3 = 0 := by rw [hN_20, va_up_self]
    have v_2 : N_20 2 = 1 := by rw [hN_20, va_up_ne _ _ (by omega)]; exact v_2
    have hfr : ∀ j, j ≠ i + 1 → g_20 j = g j := fun j hj => (hf_20 j hj).trans (hfr j hj)
    refine lv_aload_n X.1 X.2.1 dX11_last_23 rfl (lv_at hl 1 rfl) ?_
    refine x_get (C := RX11) (T := TX11) (N := 21) X hW (by omega) hO rfl lk_0 13 (by decide) lk_1 rfl dX11_last_24 ?_
    refine x_seti ((hz : Int)) hq2 ?_
    refine x_iconst X dX11_last_27 ?_
    refine x_isub X dX11_last_28 ?_
    refine x_seti ((hz : Int) - 1 - ((0 : Nat) : Int)) (by omega) ?_
    refine lv_istore_n (lv' := [(2, .int (iI ((hz : Int) - 1 - ((0 : Nat) : Int)))), (1, .int (iI ((-1)))), (0, .ref (A (i)))]) X.1 X.2.1 dX11_last_29 rfl hl (by decide) rfl (fun ls hl => ?_)
    have loop_30 : ∀ (fuel : Nat) (d : Nat) (bs : Int) (N1 : Nat → Int) (g1 : Nat → va_E) (H : Heap) (locs : List Loc) (ls : Array Slot), (hz - d) < fuel → (d ≤ hz) → (-1 ≤ bs ∧ bs ≤ 20) → (MN E A g1 i N1) → (N1 2 = ((hpQ ta tb hz d : Nat) : Int)) → (N1 3 = ((hpW ta tb hz d : Nat) : Int)) → ((d = 0 ∧ bs = -1) ∨ (0 < d ∧ bs = ((hpS ta tb hz d : Nat) : Int) ∧ N1 10 = ((hpM ta tb hz d * pr tb (hz - d) : Nat) : Int))) → (∀ j, j ≠ i + 1 → g1 j = g j) → wH E (wF A n sz) A n s_ g1 H locs → lv_has ls 6 [(0, .ref (A (i))), (1, .int (iI (bs))), (2, .int (iI ((hz : Int) - 1 - (d : Int))))] → W p_ l e_ ({ frames := 7, cells := 0, slots := 0, locals := 260 } : Room) s_ m_ [.ref (A (i))].toArray below meth c_ H locs 0 0 (MQ below (va_Qi (fun r g' => (hz = 0 → r = iI (-1) ∧ g' = g) ∧ (0 < hz → r = iI ((hpS ta tb hz hz : Nat) : Int) ∧ MR E A g' i (rdT ((hpM ta tb hz hz : Nat) : Int) (pr tb hz)) (rdB ((hpM ta tb hz hz : Nat) : Int) (pr tb hz))) ∧ ∀ j, j ≠ i + 1 → g' j = g j) (wAt E A n) (wF A n sz)) [.ref (A (i))].toArray s_ 0 0 (wF A n sz)) (F0 m_ 30 ls []) := by
      intro fuel
      induction fuel with
      | zero => intro d bs N1 g1 H locs ls hm; exact absurd hm (Nat.not_lt_zero _)
      | succ fuel ih_30 =>
        intro d bs N1 g1 H locs ls hm hd hbr hN v_2 v_3 hst hfr hW hl
        have hO : g1 i = .inr (11, [.ref (A (i + 1)), .ref (A (i + 2)), .ref (A (i + 3)), .ref (A (i + 4)), .int (iI (q 0)), .ref (A (i + 5)), .ref (A (i + 6)), .ref (A (i + 7)), .ref (A (i + 8)), .int (iI (q 1)), .ref (A (i + 9)), .ref (A (i + 10)), .ref (A (i + 11)), .int (iI (q 2)), .ref (A (i + 12)), .ref (A (i + 13)), .int (iI (q 3)), .ref (A (i + 14)), .ref (A (i + 15)), .ref (A (i + 16)), .int (iI (q 4))]) := (hfr _ (by omega)).trans hOg
        have h12 : g1 (i + 12) = aI E 20 fa := (hfr _ (by omega)).trans h12o
        have h13 : g1 (i + 13) = aI E 20 fb := (hfr _ (by omega)).trans h13o
        refine lv_iload_n X.1 X.2.1 dX11_last_30 rfl (lv_at hl 2 rfl) ?_
        refine x_if_lt (tgt := 138) X ⟨by omega, by omega⟩ dX11_last_31 (by decide) (fun b_31 => ?_) (fun b_31 => ?_)
        · have hdz : d = hz := by omega
          rw [hdz] at hst
          obtain ⟨_, hbz, hten⟩ := hst.resolve_left (fun h9 => by omega)
          have v_10 : N1 10 = ((hpM ta tb hz hz : Nat) : Int) := by rw [hten, Nat.sub_self]; show ((hpM ta tb hz hz * 1 : Nat) : Int) = _; rw [Nat.mul_one]
          refine lv_aload_n X.1 X.2.1 dX11_last_138 rfl (lv_at hl 0 rfl) ?_
          refine x_bipush X (by decide) dX11_last_139 ?_
          refine x_lconst X 1 (by decide) dX11_last_141 ?_
          refine x_cv (x_runV (k := 2) (As := [.int (iI (11)), .long (lI (1))]) (rest := []) X hW (c_X11_set l E A n _ g1 i (11) q N1 (1) hi hO (by omega) hN (by decide) (by decide)) (by omega) hO rfl gX11_last_X11_set rfl rfl rfl (by decide +kernel) ⟨by decide, by decide⟩ rfl hl.1 rfl (Nat.le_of_ble_eq_true rfl) dX11_last_142 ⟨Nat.zero_le _, Nat.zero_le _⟩) hW (fun g_142 H locs hp_142 hW => ?_)
          obtain ⟨hN, hf_142⟩ := hp_142
          obtain ⟨N_142, hN_142⟩ : ∃ N9 : Nat → Int, N9 = va_up N1 11 (1) := ⟨_, rfl⟩
          rw [← hN_142] at hN
          have hO : g_142 i = .inr (11, [.ref (A (i + 1)), .ref (A (i + 2)), .ref (A (i + 3)), .ref (A (i + 4)), .int (iI (q 0)), .ref (A (i + 5)), .ref (A (i + 6)), .ref (A (i + 7)), .ref (A (i + 8)), .int (iI (q 1)), .ref (A (i + 9)), .ref (A (i + 10)), .ref (A (i + 11)), .int (iI (q 2)), .ref (A (i + 12)), .ref (A (i + 13)), .int (iI (q 3)), .ref (A (i + 14)), .ref (A (i + 15)), .ref (A (i + 16)), .int (iI (q 4))]) := by rw [hf_142 _ (by omega)]; exact hO
          have h12 : g_142 (i + 12) = aI E 20 fa := by rw [hf_142 _ (by omega)]; exact h12
          have h13 : g_142 (i + 13) = aI E 20 fb := by rw [hf_142 _ (by omega)]; exact h13
          have v_11 : N_142 11 = 1 := by rw [hN_142, va_up_self]
          have v_10 : N_142 10 = ((hpM ta tb hz hz : Nat) : Int) := by rw [hN_142, va_up_ne _ _ (by omega)]; exact v_10
          have hfr : ∀ j, j ≠ i + 1 → g_142 j = g j := fun j hj => (hf_142 j hj).trans (hfr j hj)
          refine x_iconst X dX11_last_145 ?_
          refine x_seti (((0 : Nat) : Int)) rfl ?_
          refine lv_istore_n (lv' := [(2, .int (iI (((0 : Nat) : Int)))), (0, .ref (A (i))), (1, .int (iI (bs)))]) X.1 X.2.1 dX11_last_146 rfl hl (by decide) rfl (fun ls hl => ?_)
          have loop_147 : ∀ (fuel : Nat) (u : Nat) (N3 : Nat → Int) (g3 : Nat → va_E) (H : Heap) (locs : List Loc) (ls : Array Slot), (hz - u) < fuel → (u ≤ hz) → (MN E A g3 i N3) → (N3 10 = ((hpM ta tb hz hz : Nat) : Int)) → (N3 11 = ((pr tb u : Nat) : Int)) → (∀ j, j ≠ i + 1 → g3 j = g j) → wH E (wF A n sz) A n s_ g3 H locs → lv_has ls 6 [(0, .ref (A (i))), (1, .int (iI (bs))), (2, .int (iI (((u : Nat) : Int))))] → W p_ l e_ ({ frames := 7, cells := 0, slots := 0, locals := 260 } : Room) s_ m_ [.ref (A (i))].toArray below meth c_ H locs 0 0 (MQ below (va_Qi (fun r g' => (hz = 0 → r = iI (-1) ∧ g' = g) ∧ (0 < hz → r = iI ((hpS ta tb hz hz : Nat) : Int) ∧ MR E A g' i (rdT ((hpM ta tb hz hz : Nat) : Int) (pr tb hz)) (rdB ((hpM ta tb hz hz : Nat) : Int) (pr tb hz))) ∧ ∀ j, j ≠ i + 1 → g' j = g j) (wAt E A n) (wF A n sz)) [.ref (A (i))].toArray s_ 0 0 (wF A n sz)) (F0 m_ 147 ls []) := by
            intro fuel
            induction fuel with
            | zero => intro u N3 g3 H locs ls hm; exact absurd hm (Nat.not_lt_zero _)
            | succ fuel ih_147 =>
              intro u N3 g3 H locs ls hm hu hN v_10 v_11 hfr hW hl
              have hO : g3 i = .inr (11, [.ref (A (i + 1)), .ref (A (i + 2)), .ref (A (i + 3)), .ref (A (i + 4)), .int (iI (q 0)), .ref (A (i + 5)), .ref (A (i + 6)), .ref (A (i + 7)), .ref (A (i + 8)), .int (iI (q 1)), .ref (A (i + 9)), .ref (A (i + 10)), .ref (A (i + 11)), .int (iI (q 2)), .ref (A (i + 12)), .ref (A (i + 13)), .int (iI (q 3)), .ref (A (i + 14)), .ref (A (i + 15)), .ref (A (i + 16)), .int (iI (q 4))]) := (hfr _ (by omega)).trans hOg
              have h12 : g3 (i + 12) = aI E 20 fa := (hfr _ (by omega)).trans h12o
              have h13 : g3 (i + 13) = aI E 20 fb := (hfr _ (by omega)).trans h13o
              refine lv_iload_n X.1 X.2.1 dX11_last_147 rfl (lv_at hl 2 rfl) ?_
              refine lv_aload_n X.1 X.2.1 dX11_last_148 rfl (lv_at hl 0 rfl) ?_
              refine x_get (C := RX11) (T := TX11) (N := 21) X hW (by omega) hO rfl lk_0 13 (by decide) lk_1 rfl dX11_last_149 ?_
              refine x_seti ((hz : Int)) hq2 ?_
              refine x_icmp_ge (tgt := 174) X ⟨by omega, by omega⟩ ⟨by omega, by omega⟩ dX11_last_152 (by decide) (fun b_152 => ?_) (fun b_152 => ?_)
              · rw [show u = hz from by omega] at v_11
                have hcp : pr tb hz ≤ 10 ^ 40 := Nat.le_trans (pr_le hz (fun j hj => (hv0 j (by omega)).2.2)) (pow100 (by omega))
                have hpz : 0 < pr tb hz := pr_pos hz (fun j hj => by have := hv0 j (by omega); omega)
                have hccz := (hp_cap hv0 hz (Nat.le_refl _)).2
                have hcdz := pow100 hc20
                refine lv_aload_n X.1 X.2.1 dX11_last_174 rfl (lv_at hl 0 rfl) ?_
                refine x_bipush X (by decide) dX11_last_175 ?_
                refine x_bipush X (by decide) dX11_last_177 ?_
                refine x_cv (x_runV (k := 2) (As := [.int (iI (10)), .int (iI (11))]) (rest := []) X hW (c_X11_result l E A n _ g3 i (10) (11) q N3 (((hpM ta tb hz hz : Nat) : Int)) (pr tb hz) hi hO (by omega) (by omega) (by omega) (by omega) hN v_10 v_11 hpz (by omega) (by omega) (by omega)) (by omega) hO rfl gX11_last_X11_result rfl rfl rfl (by decide +kernel) ⟨by decide, by decide⟩ rfl hl.1 rfl (Nat.le_of_ble_eq_true rfl) dX11_last_179 ⟨Nat.zero_le _, Nat.zero_le _⟩) hW (fun g_179 H locs hp_179 hW => ?_)
                obtain ⟨⟨N_179, hN, v_0, v_1, ho8_179⟩, hf_179⟩ := hp_179
                have hfr : ∀ j, j ≠ i + 1 → g_179 j = g j := fun j hj => (hf_179 j hj).trans (hfr j hj)
                have hO : g_179 i = .inr (11, [.ref (A (i + 1)), .ref (A (i + 2)), .ref (A (i + 3)), .ref (A (i + 4)), .int (iI (q 0)), .ref (A (i + 5)), .ref (A (i + 6)), .ref (A (i + 7)), .ref (A (i + 8)), .int (iI (q 1)), .ref (A (i + 9)), .ref (A (i + 10)), .ref (A (i + 11)), .int (iI (q 2)), .ref (A (i + 12)), .ref (A (i + 13)), .int (iI (q 3)), .ref (A (i + 14)), .ref (A (i + 15)), .ref (A (i + 16)), .int (iI (q 4))]) := by rw [hf_179 _ (by omega)]; exact hO
                have h12 : g_179 (i + 12) = aI E 20 fa := by rw [hf_179 _ (by omega)]; exact h12
                have h13 : g_179 (i + 13) = aI E 20 fb := by rw [hf_179 _ (by omega)]; exact h13
                refine lv_iload_n X.1 X.2.1 dX11_last_182 rfl (lv_at hl 1 rfl) ?_
                exact x_iret X hr hlk hW (⟨fun h => absurd h (by omega), fun _ => ⟨by rw [hbz], ⟨_, hN, v_0, v_1⟩⟩, hfr⟩) dX11_last_183
              · have hcp : pr tb (u + 1) ≤ 10 ^ 40 := Nat.le_trans (pr_le (u + 1) (fun j hj => (hv0 j (by omega)).2.2)) (pow100 (by omega))
                have hus : pr tb u * tb u = pr tb (u + 1) := rfl
                have htu := (hv0 u (by omega)).2.2
                refine lv_aload_n X.1 X.2.1 dX11_last_155 rfl (lv_at hl 0 rfl) ?_
                refine x_bipush X (by decide) dX11_last_156 ?_
                refine lv_aload_n X.1 X.2.1 dX11_last_158 rfl (lv_at hl 0 rfl) ?_
                refine x_get (C := RX11) (T := TX11) (N := 21) X hW (by omega) hO rfl lk_0 15 (by decide) lk_2 rfl dX11_last_159 ?_
                refine lv_iload_n X.1 X.2.1 dX11_last_162 rfl (lv_at hl 2 rfl) ?_
                refine x_iald X hW (by omega) h13 (v := iI (((tb u : Nat) : Int))) u (by omega) (by omega) (by decide) ((hv u (by omega)).2.2) dX11_last_163 ?_
                refine x_i2l X ⟨by omega, by omega⟩ dX11_last_164 ?_
                refine x_cv (x_runV (k := 2) (As := [.int (iI (11)), .long (lI (((tb u : Nat) : Int)))]) (rest := []) X hW (c_X11_times l E A n _ g3 i (11) q N3 (((tb u : Nat) : Int)) hi hO (by omega) hN (by omega) (by omega) (by rw [v_11, ← Int.natCast_mul, hus]; omega) (by rw [v_11, ← Int.natCast_mul, hus]; omega)) (by omega) hO rfl gX11_last_X11_times rfl rfl rfl (by decide +kernel) ⟨by decide, by decide⟩ rfl hl.1 rfl (Nat.le_of_ble_eq_true rfl) dX11_last_165 ⟨Nat.zero_le _, Nat.zero_le _⟩) hW (fun g_165 H locs hp_165 hW => ?_)
                obtain ⟨hN, hf_165⟩ := hp_165
                obtain ⟨N_165, hN_165⟩ : ∃ N9 : Nat → Int, N9 = va_up N3 11 (N3 11 * (((tb u : Nat) : Int))) := ⟨_, rfl⟩
                rw [← hN_165] at hN
                have hO : g_165 i = .inr (11, [.ref (A (i + 1)), .ref (A (i + 2)), .ref (A (i + 3)), .ref (A (i + 4)), .int (iI (q 0)), .ref (A (i + 5)), .ref (A (i + 6)), .ref (A (i + 7)), .ref (A (i + 8)), .int (iI (q 1)), .ref (A (i + 9)), .ref (A (i + 10)), .ref (A (i + 11)), .int (iI (q 2)), .ref (A (i + 12)), .ref (A (i + 13)), .int (iI (q 3)), .ref (A (i + 14)), .ref (A (i + 15)), .ref (A (i + 16)), .int (iI (q 4))]) := by rw [hf_165 _ (by omega)]; exact hO
                have h12 : g_165 (i + 12) = aI E 20 fa := by rw [hf_165 _ (by omega)]; exact h12
                have h13 : g_165 (i + 13) = aI E 20 fb := by rw [hf_165 _ (by omega)]; exact h13
                have v_11 : N_165 11 = ((pr tb (u + 1) : Nat) : Int) := by rw [hN_165, va_up_self, v_11, ← Int.natCast_mul, hus]
                have v_10 : N_165 10 = ((hpM ta tb hz hz : Nat) : Int) := by rw [hN_165, va_up_ne _ _ (by omega)]; exact v_10
                have hfr : ∀ j, j ≠ i + 1 → g_165 j = g j := fun j hj => (hf_165 j hj).trans (hfr j hj)
                refine lv_iinc (v := iI (((u + 1 : Nat) : Int))) (lv' := [(2, .int (iI (((u + 1 : Nat) : Int)))), (0, .ref (A (i))), (1, .int (iI (bs)))]) X.1 X.2.1 dX11_last_168 hl (k := 2) rfl (by rw [show (Int32.ofInt (1)) = iI (1) from rfl, iI_add]; rfl) (by decide) rfl (fun ls hl => ?_)
                refine lv_goto (tgt := 147) X.1 X.2.1 dX11_last_171 (by decide) ?_
                exact ih_147 (u + 1) N_165 g_165 _ _ _ (by omega) (by omega) hN v_10 v_11 hfr hW (lv_sub hl [1, 2, 0] rfl)
          exact loop_147 _ 0 N_142 g_142 _ _ _ (Nat.lt_succ_self _) (Nat.zero_le _) hN v_10 v_11 hfr hW (lv_sub hl [1, 2, 0] rfl)
        · obtain ⟨k, hk⟩ : ∃ k, hz = k + 1 + d := ⟨hz - 1 - d, by omega⟩
          obtain ⟨⟨hk1, hk2, hk3⟩, hfa, hfb⟩ := hv k (by omega)
          have hcc := hp_cap hv0 d (by omega)
          have hcd := pow100 (d := d) (by omega)
          have hcc1 := hp_cap hv0 (d + 1) (by omega)
          have hcd1 := pow100 (d := d + 1) (by omega)
          obtain ⟨hW1, hQ1⟩ := hp_step (ta := ta) (tb := tb) hk
          have hpk : 0 < pr tb k := pr_pos k (fun j hj => by have := hv0 j (by omega); omega)
          refine lv_aload_n X.1 X.2.1 dX11_last_34 rfl (lv_at hl 0 rfl) ?_
          refine x_get (C := RX11) (T := TX11) (N := 21) X hW (by omega) hO rfl lk_0 15 (by decide) lk_2 rfl dX11_last_35 ?_
          refine lv_iload_n X.1 X.2.1 dX11_last_38 rfl (lv_at hl 2 rfl) ?_
          refine x_iald X hW (by omega) h13 (v := iI (((tb k : Nat) : Int))) k (by omega) (by omega) (by decide) hfb dX11_last_39 ?_
          refine lv_aload_n X.1 X.2.1 dX11_last_40 rfl (lv_at hl 0 rfl) ?_
          refine x_get (C := RX11) (T := TX11) (N := 21) X hW (by omega) hO rfl lk_0 14 (by decide) lk_3 rfl dX11_last_41 ?_
          refine lv_iload_n X.1 X.2.1 dX11_last_44 rfl (lv_at hl 2 rfl) ?_
          refine x_iald X hW (by omega) h12 (v := iI (((ta k : Nat) : Int))) k (by omega) (by omega) (by decide) hfa dX11_last_45 ?_
          refine x_isub X dX11_last_46 ?_
          refine x_seti (((tb k - ta k : Nat) : Int)) (by omega) ?_
          refine x_i2l X ⟨by omega, by omega⟩ dX11_last_47 ?_
          refine lv_lstore_n (lv' := [(3, .long (lI (((tb k - ta k : Nat) : Int)))), (0, .ref (A (i))), (1, .int (iI (bs))), (2, .int (iI ((hz : Int) - 1 - (d : Int))))]) X.1 X.2.1 dX11_last_48 rfl hl (by decide) rfl (fun ls hl => ?_)
          refine lv_aload_n X.1 X.2.1 dX11_last_49 rfl (lv_at hl 1 rfl) ?_
          refine x_iconst X dX11_last_50 ?_
          refine lv_lload_n X.1 X.2.1 dX11_last_51 rfl (lv_at hl 0 rfl) ?_
          refine x_cv (x_runV (k := 2) (As := [.int (iI (3)), .long (lI (((tb k - ta k : Nat) : Int)))]) (rest := []) X hW (c_X11_times l E A n _ g1 i (3) q N1 (((tb k - ta k : Nat) : Int)) hi hO (by omega) hN (by omega) (by omega) (by rw [v_3, ← Int.natCast_mul]; omega) (by rw [v_3, ← Int.natCast_mul]; omega)) (by omega) hO rfl gX11_last_X11_times rfl rfl rfl (by decide +kernel) ⟨by decide, by decide⟩ rfl hl.1 rfl (Nat.le_of_ble_eq_true rfl) dX11_last_52 ⟨Nat.zero_le _, Nat.zero_le _⟩) hW (fun g_52 H locs hp_52 hW => ?_)
          obtain ⟨hN, hf_52⟩ := hp_52
          obtain ⟨N_52, hN_52⟩ : ∃ N9 : Nat → Int, N9 = va_up N1 3 (N1 3 * (((tb k - ta k : Nat) : Int))) := ⟨_, rfl⟩
          rw [← hN_52] at hN
          have hO : g_52 i = .inr (11, [.ref (A (i + 1)), .ref (A (i + 2)), .ref (A (i + 3)), .ref (A (i + 4)), .int (iI (q 0)), .ref (A (i + 5)), .ref (A (i + 6)), .ref (A (i + 7)), .ref (A (i + 8)), .int (iI (q 1)), .ref (A (i + 9)), .ref (A (i + 10)), .ref (A (i + 11)), .int (iI (q 2)), .ref (A (i + 12)), .ref (A (i + 13)), .int (iI (q 3)), .ref (A (i + 14)), .ref (A (i + 15)), .ref (A (i + 16)), .int (iI (q 4))]) := by rw [hf_52 _ (by omega)]; exact hO
          have h12 : g_52 (i + 12) = aI E 20 fa := by rw [hf_52 _ (by omega)]; exact h12
          have h13 : g_52 (i + 13) = aI E 20 fb := by rw [hf_52 _ (by omega)]; exact h13
          have v_3 : N_52 3 = ((hpW ta tb hz d * (tb k - ta k) : Nat) : Int) := by rw [hN_52, va_up_self, v_3, ← Int.natCast_mul]
          have v_2 : N_52 2 = ((hpQ ta tb hz d : Nat) : Int) := by rw [hN_52, va_up_ne _ _ (by omega)]; exact v_2
          have hfr : ∀ j, j ≠ i + 1 → g_52 j = g j := fun j hj => (hf_52 j hj).trans (hfr j hj)
          refine lv_aload_n X.1 X.2.1 dX11_last_55 rfl (lv_at hl 1 rfl) ?_
          refine x_iconst X dX11_last_56 ?_
          refine x_iconst X dX11_last_57 ?_
          refine lv_aload_n X.1 X.2.1 dX11_last_58 rfl (lv_at hl 1 rfl) ?_
          refine x_get (C := RX11) (T := TX11) (N := 21) X hW (by omega) hO rfl lk_0 14 (by decide) lk_3 rfl dX11_last_59 ?_
          refine lv_iload_n X.1 X.2.1 dX11_last_62 rfl (lv_at hl 3 rfl) ?_
          refine x_iald X hW (by omega) h12 (v := iI (((ta k : Nat) : Int))) k (by omega) (by omega) (by decide) hfa dX11_last_63 ?_
          refine x_i2l X ⟨by omega, by omega⟩ dX11_last_64 ?_
          refine x_cv (x_runV (k := 3) (As := [.int (iI (3)), .int (iI (2)), .long (lI (((ta k : Nat) : Int)))]) (rest := []) X hW (c_X11_more l E A n _ g_52 i (3) (2) q N_52 (((ta k : Nat) : Int)) hi hO (by omega) (by omega) (by omega) hN (by omega) (by omega) (by rw [v_3, v_2, ← Int.natCast_mul, ← Int.natCast_add, ← hW1]; omega) (by rw [v_3, v_2, ← Int.natCast_mul, ← Int.natCast_add, ← hW1]; omega)) (by omega) hO rfl gX11_last_X11_more rfl rfl rfl (by decide +kernel) ⟨by decide, by decide⟩ rfl hl.1 rfl (Nat.le_of_ble_eq_true rfl) dX11_last_65 ⟨Nat.zero_le _, Nat.zero_le _⟩) hW (fun g_65 H locs hp_65 hW => ?_)
          obtain ⟨hN, hf_65⟩ := hp_65
          obtain ⟨N_65, hN_65⟩ : ∃ N9 : Nat → Int, N9 = va_up N_52 3 (N_52 3 + N_52 2 * (((ta k : Nat) : Int))) := ⟨_, rfl⟩
          rw [← hN_65] at hN
          have hO : g_65 i = .inr (11, [.ref (A (i + 1)), .ref (A (i + 2)), .ref (A (i + 3)), .ref (A (i + 4)), .int (iI (q 0)), .ref (A (i + 5)), .ref (A (i + 6)), .ref (A (i + 7)), .ref (A (i + 8)), .int (iI (q 1)), .ref (A (i + 9)), .ref (A (i + 10)), .ref (A (i + 11)), .int (iI (q 2)), .ref (A (i + 12)), .ref (A (i + 13)), .int (iI (q 3)), .ref (A (i + 14)), .ref (A (i + 15)), .ref (A (i + 16)), .int (iI (q 4))]) := by rw [hf_65 _ (by omega)]; exact hO
          have h12 : g_65 (i + 12) = aI E 20 fa := by rw [hf_65 _ (by omega)]; exact h12
          have h13 : g_65 (i + 13) = aI E 20 fb := by rw [hf_65 _ (by omega)]; exact h13
          have v_3 : N_65 3 = ((hpW ta tb hz (d + 1) : Nat) : Int) := by rw [hN_65, va_up_self, v_3, v_2, ← Int.natCast_mul, ← Int.natCast_add, ← hW1]
          have v_2 : N_65 2 = ((hpQ ta tb hz d : Nat) : Int) := by rw [hN_65, va_up_ne _ _ (by omega)]; exact v_2
          have hfr : ∀ j, j ≠ i + 1 → g_65 j = g j := fun j hj => (hf_65 j hj).trans (hfr j hj)
          refine lv_aload_n X.1 X.2.1 dX11_last_68 rfl (lv_at hl 1 rfl) ?_
          refine x_iconst X dX11_last_69 ?_
          refine lv_lload_n X.1 X.2.1 dX11_last_70 rfl (lv_at hl 0 rfl) ?_
          refine x_cv (x_runV (k := 2) (As := [.int (iI (2)), .long (lI (((tb k - ta k : Nat) : Int)))]) (rest := []) X hW (c_X11_times l E A n _ g_65 i (2) q N_65 (((tb k - ta k : Nat) : Int)) hi hO (by omega) hN (by omega) (by omega) (by rw [v_2, ← Int.natCast_mul, ← hQ1]; omega) (by rw [v_2, ← Int.natCast_mul, ← hQ1]; omega)) (by omega) hO rfl gX11_last_X11_times rfl rfl rfl (by decide +kernel) ⟨by decide, by decide⟩ rfl hl.1 rfl (Nat.le_of_ble_eq_true rfl) dX11_last_71 ⟨Nat.zero_le _, Nat.zero_le _⟩) hW (fun g_71 H locs hp_71 hW => ?_)
          obtain ⟨hN, hf_71⟩ := hp_71
          obtain ⟨N_71, hN_71⟩ : ∃ N9 : Nat → Int, N9 = va_up N_65 2 (N_65 2 * (((tb k - ta k : Nat) : Int))) := ⟨_, rfl⟩
          rw [← hN_71] at hN
          have hO : g_71 i = .inr (11, [.ref (A (i + 1)), .ref (A (i + 2)), .ref (A (i + 3)), .ref (A (i + 4)), .int (iI (q 0)), .ref (A (i + 5)), .ref (A (i + 6)), .ref (A (i + 7)), .ref (A (i + 8)), .int (iI (q 1)), .ref (A (i + 9)), .ref (A (i + 10)), .ref (A (i + 11)), .int (iI (q 2)), .ref (A (i + 12)), .ref (A (i + 13)), .int (iI (q 3)), .ref (A (i + 14)), .ref (A (i + 15)), .ref (A (i + 16)), .int (iI (q 4))]) := by rw [hf_71 _ (by omega)]; exact hO
          have h12 : g_71 (i + 12) = aI E 20 fa := by rw [hf_71 _ (by omega)]; exact h12
          have h13 : g_71 (i + 13) = aI E 20 fb := by rw [hf_71 _ (by omega)]; exact h13
          have v_2 : N_71 2 = ((hpQ ta tb hz (d + 1) : Nat) : Int) := by rw [hN_71, va_up_self, v_2, ← Int.natCast_mul, ← hQ1]
          have v_3 : N_71 3 = ((hpW ta tb hz (d + 1) : Nat) : Int) := by rw [hN_71, va_up_ne _ _ (by omega)]; exact v_3
          have hfr : ∀ j, j ≠ i + 1 → g_71 j = g j := fun j hj => (hf_71 j hj).trans (hfr j hj)
          refine lv_aload_n X.1 X.2.1 dX11_last_74 rfl (lv_at hl 1 rfl) ?_
          refine x_iconst X dX11_last_75 ?_
          refine x_iconst X dX11_last_76 ?_
          refine x_cv (x_runV (k := 2) (As := [.int (iI (4)), .int (iI (3))]) (rest := []) X hW (c_X11_copy l E A n _ g_71 i (4) (3) q N_71 hi hO (by omega) (by omega) (by omega) hN) (by omega) hO rfl gX11_last_X11_copy rfl rfl rfl (by decide +kernel) ⟨by decide, by decide⟩ rfl hl.1 rfl (Nat.le_of_ble_eq_true rfl) dX11_last_77 ⟨Nat.zero_le _, Nat.zero_le _⟩) hW (fun g_77 H locs hp_77 hW => ?_)
          obtain ⟨hN, hf_77⟩ := hp_77
          obtain ⟨N_77, hN_77⟩ : ∃ N9 : Nat → Int, N9 = va_up N_71 4 (N_71 (3)) := ⟨_, rfl⟩
          rw [← hN_77] at hN
          have hO : g_77 i = .inr (11, [.ref (A (i + 1)), .ref (A (i + 2)), .ref (A (i + 3)), .ref (A (i + 4)), .int (iI (q 0)), .ref (A (i + 5)), .ref (A (i + 6)), .ref (A (i + 7)), .ref (A (i + 8)), .int (iI (q 1)), .ref (A (i + 9)), .ref (A (i + 10)), .ref (A (i + 11)), .int (iI (q 2)), .ref (A (i + 12)), .ref (A (i + 13)), .int (iI (q 3)), .ref (A (i + 14)), .ref (A (i + 15)), .ref (A (i + 16)), .int (iI (q 4))]) := by rw [hf_77 _ (by omega)]; exact hO
          have h12 : g_77 (i + 12) = aI E 20 fa := by rw [hf_77 _ (by omega)]; exact h12
          have h13 : g_77 (i + 13) = aI E 20 fb := by rw [hf_77 _ (by omega)]; exact h13
          have v_4 : N_77 4 = ((hpW ta tb hz (d + 1) : Nat) : Int) := by rw [hN_77, va_up_self, v_3]
          have v_3 : N_77 3 = ((hpW ta tb hz (d + 1) : Nat) : Int) := by rw [hN_77, va_up_ne _ _ (by omega)]; exact v_3
          have v_2 : N_77 2 = ((hpQ ta tb hz (d + 1) : Nat) : Int) := by rw [hN_77, va_up_ne _ _ (by omega)]; exact v_2
          have hfr : ∀ j, j ≠ i + 1 → g_77 j = g j := fun j hj => (hf_77 j hj).trans (hfr j hj)
          have hten0 : N_77 10 = N1 10 := by rw [hN_77, va_up_ne _ _ (by omega), hN_71, va_up_ne _ _ (by omega), hN_65, va_up_ne _ _ (by omega), hN_52, va_up_ne _ _ (by omega)]
          refine x_iconst X dX11_last_80 ?_
          refine x_seti (((0 : Nat) : Int)) rfl ?_
          refine lv_istore (lv' := [(5, .int (iI (((0 : Nat) : Int)))), (3, .long (lI (((tb k - ta k : Nat) : Int)))), (0, .ref (A (i))), (1, .int (iI (bs))), (2, .int (iI ((hz : Int) - 1 - (d : Int))))]) X.1 X.2.1 dX11_last_81 hl (by decide) rfl (fun ls hl => ?_)
          have loop_83 : ∀ (fuel : Nat) (u : Nat) (N2 : Nat → Int) (g2 : Nat → va_E) (H : Heap) (locs : List Loc) (ls : Array Slot), (k - u) < fuel → (u ≤ k) → (MN E A g2 i N2) → (N2 2 = ((hpQ ta tb hz (d + 1) : Nat) : Int)) → (N2 3 = ((hpW ta tb hz (d + 1) : Nat) : Int)) → (N2 4 = ((hpW ta tb hz (d + 1) * pr tb u : Nat) : Int)) → (N2 10 = N1 10) → (∀ j, j ≠ i + 1 → g2 j = g j) → wH E (wF A n sz) A n s_ g2 H locs → lv_has ls 6 [(0, .ref (A (i))), (1, .int (iI (bs))), (2, .int (iI ((hz : Int) - 1 - (d : Int)))), (5, .int (iI (((u : Nat) : Int))))] → W p_ l e_ ({ frames := 7, cells := 0, slots := 0, locals := 260 } : Room) s_ m_ [.ref (A (i))].toArray below meth c_ H locs 0 0 (MQ below (va_Qi (fun r g' => (hz = 0 → r = iI (-1) ∧ g' = g) ∧ (0 < hz → r = iI ((hpS ta tb hz hz : Nat) : Int) ∧ MR E A g' i (rdT ((hpM ta tb hz hz : Nat) : Int) (pr tb hz)) (rdB ((hpM ta tb hz hz : Nat) : Int) (pr tb hz))) ∧ ∀ j, j ≠ i + 1 → g' j = g j) (wAt E A n) (wF A n sz)) [.ref (A (i))].toArray s_ 0 0 (wF A n sz)) (F0 m_ 83 ls []) := by
            intro fuel
            induction fuel with
            | zero => intro u N2 g2 H locs ls hm; exact absurd hm (Nat.not_lt_zero _)
            | succ fuel ih_83 =>
              intro u N2 g2 H locs ls hm hu hN v_2 v_3 v_4 hot9 hfr hW hl
              have hO : g2 i = .inr (11, [.ref (A (i + 1)), .ref (A (i + 2)), .ref (A (i + 3)), .ref (A (i + 4)), .int (iI (q 0)), .ref (A (i + 5)), .ref (A (i + 6)), .ref (A (i + 7)), .ref (A (i + 8)), .int (iI (q 1)), .ref (A (i + 9)), .ref (A (i + 10)), .ref (A (i + 11)), .int (iI (q 2)), .ref (A (i + 12)), .ref (A (i + 13)), .int (iI (q 3)), .ref (A (i + 14)), .ref (A (i + 15)), .ref (A (i + 16)), .int (iI (q 4))]) := (hfr _ (by omega)).trans hOg
              have h12 : g2 (i + 12) = aI E 20 fa := (hfr _ (by omega)).trans h12o
              have h13 : g2 (i + 13) = aI E 20 fb := (hfr _ (by omega)).trans h13o
              refine lv_iload X.1 X.2.1 dX11_last_83 (lv_at hl 3 rfl) ?_
              refine lv_iload_n X.1 X.2.1 dX11_last_85 rfl (lv_at hl 2 rfl) ?_
              refine x_icmp_ge (tgt := 108) X ⟨by omega, by omega⟩ ⟨by omega, by omega⟩ dX11_last_86 (by decide) (fun b_86 => ?_) (fun b_86 => ?_)
              · rw [show u = k from by omega] at v_4
                refine lv_iload_n X.1 X.2.1 dX11_last_108 rfl (lv_at hl 1 rfl) ?_
                refine x_iconst X dX11_last_109 ?_
                refine x_icmp_eq (tgt := 123) X ⟨by omega, by omega⟩ ⟨by decide, by decide⟩ dX11_last_110 (by decide) (fun b_110 => ?_) (fun b_110 => ?_)
                · obtain ⟨hm9, hs9⟩ := hp_first (ta := ta) (tb := tb) hk (by omega)
                  refine lv_aload_n X.1 X.2.1 dX11_last_123 rfl (lv_at hl 0 rfl) ?_
                  refine x_bipush X (by decide) dX11_last_124 ?_
                  refine x_iconst X dX11_last_126 ?_
                  refine x_cv (x_runV (k := 2) (As := [.int (iI (10)), .int (iI (4))]) (rest := []) X hW (c_X11_copy l E A n _ g2 i (10) (4) q N2 hi hO (by omega) (by omega) (by omega) hN) (by omega) hO rfl gX11_last_X11_copy rfl rfl rfl (by decide +kernel) ⟨by decide, by decide⟩ rfl hl.1 rfl (Nat.le_of_ble_eq_true rfl) dX11_last_127 ⟨Nat.zero_le _, Nat.zero_le _⟩) hW (fun g_127 H locs hp_127 hW => ?_)
                  obtain ⟨hN, hf_127⟩ := hp_127
                  obtain ⟨N_127, hN_127⟩ : ∃ N9 : Nat → Int, N9 = va_up N2 10 (N2 (4)) := ⟨_, rfl⟩
                  rw [← hN_127] at hN
                  have hO : g_127 i = .inr (11, [.ref (A (i + 1)), .ref (A (i + 2)), .ref (A (i + 3)), .ref (A (i + 4)), .int (iI (q 0)), .ref (A (i + 5)), .ref (A (i + 6)), .ref (A (i + 7)), .ref (A (i + 8)), .int (iI (q 1)), .ref (A (i + 9)), .ref (A (i + 10)), .ref (A (i + 11)), .int (iI (q 2)), .ref (A (i + 12)), .ref (A (i + 13)), .int (iI (q 3)), .ref (A (i + 14)), .ref (A (i + 15)), .ref (A (i + 16)), .int (iI (q 4))]) := by rw [hf_127 _ (by omega)]; exact hO
                  have h12 : g_127 (i + 12) = aI E 20 fa := by rw [hf_127 _ (by omega)]; exact h12
                  have h13 : g_127 (i + 13) = aI E 20 fb := by rw [hf_127 _ (by omega)]; exact h13
                  have v_10 : N_127 10 = ((hpW ta tb hz (d + 1) * pr tb k : Nat) : Int) := by rw [hN_127, va_up_self, v_4]
                  have v_2 : N_127 2 = ((hpQ ta tb hz (d + 1) : Nat) : Int) := by rw [hN_127, va_up_ne _ _ (by omega)]; exact v_2
                  have v_3 : N_127 3 = ((hpW ta tb hz (d + 1) : Nat) : Int) := by rw [hN_127, va_up_ne _ _ (by omega)]; exact v_3
                  have v_4 : N_127 4 = ((hpW ta tb hz (d + 1) * pr tb k : Nat) : Int) := by rw [hN_127, va_up_ne _ _ (by omega)]; exact v_4
                  have hfr : ∀ j, j ≠ i + 1 → g_127 j = g j := fun j hj => (hf_127 j hj).trans (hfr j hj)
                  refine lv_iload_n X.1 X.2.1 dX11_last_130 rfl (lv_at hl 2 rfl) ?_
                  refine x_seti (((k : Nat) : Int)) (by omega) ?_
                  refine lv_istore_n (lv' := [(1, .int (iI (((k : Nat) : Int)))), (0, .ref (A (i))), (2, .int (iI ((hz : Int) - 1 - (d : Int)))), (5, .int (iI (((u : Nat) : Int))))]) X.1 X.2.1 dX11_last_131 rfl hl (by decide) rfl (fun ls hl => ?_)
                  refine lv_iinc (v := iI ((hz : Int) - 1 - ((d + 1 : Nat) : Int))) (lv' := [(2, .int (iI ((hz : Int) - 1 - ((d + 1 : Nat) : Int)))), (1, .int (iI (((k : Nat) : Int)))), (0, .ref (A (i))), (5, .int (iI (((u : Nat) : Int))))]) X.1 X.2.1 dX11_last_132 hl (k := 2) rfl (by rw [show (Int32.ofInt (-1)) = iI (-1) from rfl, iI_add]; congr 1; omega) (by decide) rfl (fun ls hl => ?_)
                  refine lv_goto (tgt := 30) X.1 X.2.1 dX11_last_135 (by decide) ?_
                  exact ih_30 (d + 1) (((k : Nat) : Int)) N_127 g_127 _ _ _ (by omega) (by omega) (by omega) hN v_2 v_3 (Or.inr ⟨by omega, by rw [hs9], by rw [v_10, hm9, show hz - (d + 1) = k from by omega]⟩) hfr hW (lv_sub hl [2, 1, 0] rfl)
                · obtain ⟨hd0, hbs, hten⟩ := hst.resolve_left (fun h9 => by omega)
                  have v_10 : N2 10 = ((hpM ta tb hz d * pr tb (k + 1) : Nat) : Int) := by rw [hot9, hten, show hz - d = k + 1 from by omega]
                  refine lv_aload_n X.1 X.2.1 dX11_last_113 rfl (lv_at hl 0 rfl) ?_
                  refine x_iconst X dX11_last_114 ?_
                  refine x_bipush X (by decide) dX11_last_115 ?_
                  refine x_ci (x_runV (k := 2) (As := [.int (iI (4)), .int (iI (10))]) (rest := []) X hW (c_X11_compared l E A n _ g2 i (4) (10) q N2 hi hO (by omega) (by omega) hN) (by omega) hO rfl gX11_last_X11_compared rfl rfl rfl (by decide +kernel) ⟨by decide, by decide⟩ rfl hl.1 rfl (Nat.le_of_ble_eq_true rfl) dX11_last_117 ⟨Nat.zero_le _, Nat.zero_le _⟩) hW (fun r_117 g_117 H locs hp_117 hW => ?_)
                  obtain ⟨hr_117, he_117⟩ := hp_117
                  rw [he_117] at hW
                  rw [v_4, v_10] at hr_117
                  subst hr_117
                  refine x_if_le (tgt := 132) X (cmp_rng _ _) dX11_last_120 (by decide) (fun b_120 => ?_) (fun b_120 => ?_)
                  · obtain ⟨hm9, hs9⟩ := hp_keep hk (hp_less hk (cmp_le b_120) hpk)
                    refine lv_iinc (v := iI ((hz : Int) - 1 - ((d + 1 : Nat) : Int))) (lv' := [(2, .int (iI ((hz : Int) - 1 - ((d + 1 : Nat) : Int)))), (0, .ref (A (i))), (1, .int (iI (bs))), (5, .int (iI (((u : Nat) : Int))))]) X.1 X.2.1 dX11_last_132 hl (k := 2) rfl (by rw [show (Int32.ofInt (-1)) = iI (-1) from rfl, iI_add]; congr 1; omega) (by decide) rfl (fun ls hl => ?_)
                    refine lv_goto (tgt := 30) X.1 X.2.1 dX11_last_135 (by decide) ?_
                    exact ih_30 (d + 1) bs N2 g2 _ _ _ (by omega) (by omega) (by omega) hN v_2 v_3 (Or.inr ⟨by omega, by rw [hs9]; exact hbs, by rw [v_10, hm9, show hz - (d + 1) = k from by omega, Nat.mul_assoc, Nat.mul_comm (tb k)]; rfl⟩) hfr hW (lv_sub hl [1, 2, 0] rfl)
                  · obtain ⟨hm9, hs9⟩ := hp_take hk (hp_more hk hpk (cmp_gt b_120))
                    refine lv_aload_n X.1 X.2.1 dX11_last_123 rfl (lv_at hl 0 rfl) ?_
                    refine x_bipush X (by decide) dX11_last_124 ?_
                    refine x_iconst X dX11_last_126 ?_
                    refine x_cv (x_runV (k := 2) (As := [.int (iI (10)), .int (iI (4))]) (rest := []) X hW (c_X11_copy l E A n _ g2 i (10) (4) q N2 hi hO (by omega) (by omega) (by omega) hN) (by omega) hO rfl gX11_last_X11_copy rfl rfl rfl (by decide +kernel) ⟨by decide, by decide⟩ rfl hl.1 rfl (Nat.le_of_ble_eq_true rfl) dX11_last_127 ⟨Nat.zero_le _, Nat.zero_le _⟩) hW (fun g_127 H locs hp_127 hW => ?_)
                    obtain ⟨hN, hf_127⟩ := hp_127
                    obtain ⟨N_127, hN_127⟩ : ∃ N9 : Nat → Int, N9 = va_up N2 10 (N2 (4)) := ⟨_, rfl⟩
                    rw [← hN_127] at hN
                    have hO : g_127 i = .inr (11, [.ref (A (i + 1)), .ref (A (i + 2)), .ref (A (i + 3)), .ref (A (i + 4)), .int (iI (q 0)), .ref (A (i + 5)), .ref (A (i + 6)), .ref (A (i + 7)), .ref (A (i + 8)), .int (iI (q 1)), .ref (A (i + 9)), .ref (A (i + 10)), .ref (A (i + 11)), .int (iI (q 2)), .ref (A (i + 12)), .ref (A (i + 13)), .int (iI (q 3)), .ref (A (i + 14)), .ref (A (i + 15)), .ref (A (i + 16)), .int (iI (q 4))]) := by rw [hf_127 _ (by omega)]; exact hO
                    have h12 : g_127 (i + 12) = aI E 20 fa := by rw [hf_127 _ (by omega)]; exact h12
                    have h13 : g_127 (i + 13) = aI E 20 fb := by rw [hf_127 _ (by omega)]; exact h13
                    have v_10 : N_127 10 = ((hpW ta tb hz (d + 1) * pr tb k : Nat) : Int) := by rw [hN_127, va_up_self, v_4]
                    have v_2 : N_127 2 = ((hpQ ta tb hz (d + 1) : Nat) : Int) := by rw [hN_127, va_up_ne _ _ (by omega)]; exact v_2
                    have v_3 : N_127 3 = ((hpW ta tb hz (d + 1) : Nat) : Int) := by rw [hN_127, va_up_ne _ _ (by omega)]; exact v_3
                    have v_4 : N_127 4 = ((hpW ta tb hz (d + 1) * pr tb k : Nat) : Int) := by rw [hN_127, va_up_ne _ _ (by omega)]; exact v_4
                    have hfr : ∀ j, j ≠ i + 1 → g_127 j = g j := fun j hj => (hf_127 j hj).trans (hfr j hj)
                    refine lv_iload_n X.1 X.2.1 dX11_last_130 rfl (lv_at hl 2 rfl) ?_
                    refine x_seti (((k : Nat) : Int)) (by omega) ?_
                    refine lv_istore_n (lv' := [(1, .int (iI (((k : Nat) : Int)))), (0, .ref (A (i))), (2, .int (iI ((hz : Int) - 1 - (d : Int)))), (5, .int (iI (((u : Nat) : Int))))]) X.1 X.2.1 dX11_last_131 rfl hl (by decide) rfl (fun ls hl => ?_)
                    refine lv_iinc (v := iI ((hz : Int) - 1 - ((d + 1 : Nat) : Int))) (lv' := [(2, .int (iI ((hz : Int) - 1 - ((d + 1 : Nat) : Int)))), (1, .int (iI (((k : Nat) : Int)))), (0, .ref (A (i))), (5, .int (iI (((u : Nat) : Int))))]) X.1 X.2.1 dX11_last_132 hl (k := 2) rfl (by rw [show (Int32.ofInt (-1)) = iI (-1) from rfl, iI_add]; congr 1; omega) (by decide) rfl (fun ls hl => ?_)
                    refine lv_goto (tgt := 30) X.1 X.2.1 dX11_last_135 (by decide) ?_
                    exact ih_30 (d + 1) (((k : Nat) : Int)) N_127 g_127 _ _ _ (by omega) (by omega) (by omega) hN v_2 v_3 (Or.inr ⟨by omega, by rw [hs9], by rw [v_10, hm9, show hz - (d + 1) = k from by omega]⟩) hfr hW (lv_sub hl [2, 1, 0] rfl)
              · have hc3 := hp_cap3 hv0 hc20 (d := d + 1) (u := u + 1) (by omega)
                have hus : hpW ta tb hz (d + 1) * pr tb u * tb u = hpW ta tb hz (d + 1) * pr tb (u + 1) := Nat.mul_assoc _ _ _
                have htu := (hv0 u (by omega)).2.2
                refine lv_aload_n X.1 X.2.1 dX11_last_89 rfl (lv_at hl 0 rfl) ?_
                refine x_iconst X dX11_last_90 ?_
                refine lv_aload_n X.1 X.2.1 dX11_last_91 rfl (lv_at hl 0 rfl) ?_
                refine x_get (C := RX11) (T := TX11) (N := 21) X hW (by omega) hO rfl lk_0 15 (by decide) lk_2 rfl dX11_last_92 ?_
                refine lv_iload X.1 X.2.1 dX11_last_95 (lv_at hl 3 rfl) ?_
                refine x_iald X hW (by omega) h13 (v := iI (((tb u : Nat) : Int))) u (by omega) (by omega) (by decide) ((hv u (by omega)).2.2) dX11_last_97 ?_
                refine x_i2l X ⟨by omega, by omega⟩ dX11_last_98 ?_
                refine x_cv (x_runV (k := 2) (As := [.int (iI (4)), .long (lI (((tb u : Nat) : Int)))]) (rest := []) X hW (c_X11_times l E A n _ g2 i (4) q N2 (((tb u : Nat) : Int)) hi hO (by omega) hN (by omega) (by omega) (by rw [v_4, ← Int.natCast_mul, hus]; omega) (by rw [v_4, ← Int.natCast_mul, hus]; omega)) (by omega) hO rfl gX11_last_X11_times rfl rfl rfl (by decide +kernel) ⟨by decide, by decide⟩ rfl hl.1 rfl (Nat.le_of_ble_eq_true rfl) dX11_last_99 ⟨Nat.zero_le _, Nat.zero_le _⟩) hW (fun g_99 H locs hp_99 hW => ?_)
                obtain ⟨hN, hf_99⟩ := hp_99
                obtain ⟨N_99, hN_99⟩ : ∃ N9 : Nat → Int, N9 = va_up N2 4 (N2 4 * (((tb u : Nat) : Int))) := ⟨_, rfl⟩
                rw [← hN_99] at hN
                have hO : g_99 i = .inr (11, [.ref (A (i + 1)), .ref (A (i + 2)), .ref (A (i + 3)), .ref (A (i + 4)), .int (iI (q 0)), .ref (A (i + 5)), .ref (A (i + 6)), .ref (A (i + 7)), .ref (A (i + 8)), .int (iI (q 1)), .ref (A (i + 9)), .ref (A (i + 10)), .ref (A (i + 11)), .int (iI (q 2)), .ref (A (i + 12)), .ref (A (i + 13)), .int (iI (q 3)), .ref (A (i + 14)), .ref (A (i + 15)), .ref (A (i + 16)), .int (iI (q 4))]) := by rw [hf_99 _ (by omega)]; exact hO
                have h12 : g_99 (i + 12) = aI E 20 fa := by rw [hf_99 _ (by omega)]; exact h12
                have h13 : g_99 (i + 13) = aI E 20 fb := by rw [hf_99 _ (by omega)]; exact h13
                have v_4 : N_99 4 = ((hpW ta tb hz (d + 1) * pr tb (u + 1) : Nat) : Int) := by rw [hN_99, va_up_self, v_4, ← Int.natCast_mul, hus]
                have v_2 : N_99 2 = ((hpQ ta tb hz (d + 1) : Nat) : Int) := by rw [hN_99, va_up_ne _ _ (by omega)]; exact v_2
                have v_3 : N_99 3 = ((hpW ta tb hz (d + 1) : Nat) : Int) := by rw [hN_99, va_up_ne _ _ (by omega)]; exact v_3
                have hfr : ∀ j, j ≠ i + 1 → g_99 j = g j := fun j hj => (hf_99 j hj).trans (hfr j hj)
                have hten1 : N_99 10 = N1 10 := by rw [hN_99, va_up_ne _ _ (by omega)]; exact hot9
                refine lv_iinc (v := iI (((u + 1 : Nat) : Int))) (lv' := [(5, .int (iI (((u + 1 : Nat) : Int)))), (0, .ref (A (i))), (1, .int (iI (bs))), (2, .int (iI ((hz : Int) - 1 - (d : Int))))]) X.1 X.2.1 dX11_last_102 hl (k := 3) rfl (by rw [show (Int32.ofInt (1)) = iI (1) from rfl, iI_add]; rfl) (by decide) rfl (fun ls hl => ?_)
                refine lv_goto (tgt := 83) X.1 X.2.1 dX11_last_105 (by decide) ?_
                exact ih_83 (u + 1) N_99 g_99 _ _ _ (by omega) (by omega) hN v_2 v_3 v_4 hten1 hfr hW (lv_sub hl [1, 2, 3, 0] rfl)
          exact loop_83 _ 0 N_77 g_77 _ _ _ (Nat.lt_succ_self _) (Nat.zero_le _) hN v_2 v_3 (by rw [v_4]; show _ = ((hpW ta tb hz (d + 1) * 1 : Nat) : Int); rw [Nat.mul_one]) hten0 hfr hW (lv_sub hl [2, 3, 4, 0] rfl)
    exact loop_30 _ 0 ((-1)) N_20 g_20 _ _ _ (Nat.lt_succ_self _) (Nat.zero_le _) (by omega) hN v_2 v_3 (Or.inl ⟨rfl, rfl⟩) hfr hW (lv_sub hl [2, 1, 0] rfl)
  · refine x_iconst X dX11_last_7 ?_
    exact x_iret X hr hlk hW (⟨fun _ => ⟨rfl, rfl⟩, fun h => absurd h (by omega), hfr⟩) dX11_last_8
