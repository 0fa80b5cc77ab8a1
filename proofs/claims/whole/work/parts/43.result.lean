def rdT (p : Int) (q : Nat) : Int := p.sign * ((p.natAbs / Nat.gcd p.natAbs q : Nat) : Int)
def rdB (p : Int) (q : Nat) : Nat := q / Nat.gcd p.natAbs q
theorem gcd_half_left {u w : Nat} (hu : u % 2 = 0) (hw : Nat.gcd u w % 2 = 1) : Nat.gcd (u / 2) w = Nat.gcd u w := by
  have hw2 : w % 2 = 1 := by
    rcases Nat.mod_two_eq_zero_or_one w with h | h
    · have : 2 ∣ Nat.gcd u w := Nat.dvd_gcd (Nat.dvd_of_mod_eq_zero hu) (Nat.dvd_of_mod_eq_zero h)
      omega
    · exact h
  have h2 : Nat.Coprime 2 w := by
    have : Nat.gcd 2 w = Nat.gcd (w % 2) 2 := Nat.gcd_rec 2 w
    show Nat.gcd 2 w = 1
    rw [this, hw2]; rfl
  have e : u = 2 * (u / 2) := by omega
  conv => rhs; rw [e]
  exact (Nat.Coprime.gcd_mul_left_cancel (u / 2) h2).symm
theorem gcd_both_half {u w : Nat} (hu : u % 2 = 0) (hw : w % 2 = 0) : Nat.gcd u w = 2 * Nat.gcd (u / 2) (w / 2) := by
  have e1 : u = 2 * (u / 2) := by omega
  have e2 : w = 2 * (w / 2) := by omega
  conv => lhs; rw [e1, e2]
  exact Nat.gcd_mul_left 2 (u / 2) (w / 2)
theorem gcd_odd {u w : Nat} (h : u % 2 = 1 ∨ w % 2 = 1) : Nat.gcd u w % 2 = 1 := by
  rcases Nat.mod_two_eq_zero_or_one (Nat.gcd u w) with e | e
  · have h2 : 2 ∣ Nat.gcd u w := Nat.dvd_of_mod_eq_zero e
    have h3 := Nat.dvd_trans h2 (Nat.gcd_dvd_left u w)
    have h4 := Nat.dvd_trans h2 (Nat.gcd_dvd_right u w)
    omega
  · exact e
theorem gcd_take {u w : Nat} (h : w ≤ u) : Nat.gcd (u - w) w = Nat.gcd u w := by
  have := Nat.gcd_add_self_left w (u - w)
  rw [Nat.sub_add_cancel h] at this
  exact this.symm
theorem two_lt {t q : Nat} (h : 2 ^ t ≤ q) (hq : q < 10 ^ 60) : t < 300 := by
  apply Decidable.byContradiction
  intro hc
  have : 2 ^ 300 ≤ 2 ^ t := Nat.pow_le_pow_right (by decide) (by omega)
  have h3 : (10 : Nat) ^ 60 ≤ 2 ^ 300 := by decide
  omega

theorem ifz_odd {u : Nat} (h : (if ((u : Nat) : Int) % 2 = 0 then (1 : Int) else 0) = 0) : u % 2 = 1 := by
  by_cases e : ((u : Nat) : Int) % 2 = 0
  · rw [if_pos e] at h; exact absurd h (by decide)
  · omega
theorem ifz_even {u : Nat} (h : ¬ (if ((u : Nat) : Int) % 2 = 0 then (1 : Int) else 0) = 0) : u % 2 = 0 := by
  by_cases e : ((u : Nat) : Int) % 2 = 0
  · omega
  · rw [if_neg e] at h; exact absurd rfl h
theorem ifz_nz {u : Nat} (h : (if ((u : Nat) : Int) = 0 then (1 : Int) else 0) = 0) : u ≠ 0 := by
  by_cases e : ((u : Nat) : Int) = 0
  · rw [if_pos e] at h; exact absurd h (by decide)
  · omega
theorem ifz_z2 {u : Nat} (h : ¬ (if ((u : Nat) : Int) = 0 then (1 : Int) else 0) = 0) : u = 0 := by
  by_cases e : ((u : Nat) : Int) = 0
  · omega
  · rw [if_neg e] at h; exact absurd rfl h
theorem cmp_lt {u w : Nat} (h : (if ((u : Nat) : Int) < ((w : Nat) : Int) then (-1 : Int) else if ((u : Nat) : Int) = ((w : Nat) : Int) then 0 else 1) < 0) : u < w := by
  by_cases e : ((u : Nat) : Int) < ((w : Nat) : Int)
  · omega
  · rw [if_neg e] at h; split at h <;> omega
theorem cmp_ge {u w : Nat} (h : ¬ (if ((u : Nat) : Int) < ((w : Nat) : Int) then (-1 : Int) else if ((u : Nat) : Int) = ((w : Nat) : Int) then 0 else 1) < 0) : w ≤ u := by
  by_cases e : ((u : Nat) : Int) < ((w : Nat) : Int)
  · rw [if_pos e] at h; exact absurd (by decide) h
  · omega
theorem rdT_neg {pz : Int} {qn P GG : Nat} (h : pz < 0) (hP : P = pz.natAbs) (hG : GG = Nat.gcd P qn) : ((P / GG : Nat) : Int) * -1 = rdT pz qn := by
  unfold rdT
  rw [Int.sign_eq_neg_one_of_neg h, ← hP, ← hG]; omega
theorem rdT_pos {pz : Int} {qn P GG : Nat} (h : ¬ pz < 0) (hP : P = pz.natAbs) (hG : GG = Nat.gcd P qn) : ((P / GG : Nat) : Int) = rdT pz qn := by
  unfold rdT
  by_cases e : pz = 0
  · subst e; rw [hP]; show ((0 / GG : Nat) : Int) = 0 * _; rw [Nat.zero_div, Int.zero_mul]; rfl
  · rw [Int.sign_eq_one_of_pos (by omega), ← hP, ← hG]; omega

set_option maxHeartbeats 4000000 in
set_option maxRecDepth 100000 in
/-- result: in lowest terms -/
theorem c_X11_result (l : Launch) (E : wE) (A : Nat → Nat) (n sz : Nat) (g : Nat → va_E) (i a b : Nat) (q : Nat → Int) (N : Nat → Int) (pz : Int) (qn : Nat) (hi : i + 16 < n) (hO : g i = mO A i q) (ha : a < 4000) (hbb : b < 4000) (ha8 : 8 ≤ a) (hb8 : 8 ≤ b) (hN : MN E A g i N) (hv : N a = pz) (hwv : N b = (qn : Int)) (hq0 : 0 < qn) (hq6 : qn < 10 ^ 60) (hp1 : -(10 ^ 60) < pz) (hp2 : pz < 10 ^ 60) : Met l yX11_result wsX11_result ({ frames := 6, cells := 0, slots := 0, locals := 200 } : Room) (va_Pc [.ref (A (i)), .int (iI ((a : Int))), .int (iI ((b : Int)))] (wPre E A n sz g)) (va_Qv (fun g' => (∃ N' : Nat → Int, MN E A g' i N' ∧ N' 0 = rdT pz qn ∧ N' 1 = ((rdB pz qn : Nat) : Int) ∧ ∀ x, 8 ≤ x → N' x = N x) ∧ ∀ j, j ≠ i + 1 → g' j = g j) (wAt E A n) (wF A n sz)) 0 0 (wF A n sz) := by
  refine x_met (cc := cX11_result) (maxL := 6) (ret := none) [.ref (A (i)), .int (iI ((a : Int))), .int (iI ((b : Int)))] (by decide) rfl (Nat.le_of_ble_eq_true rfl) ?_
  intro p e s m below meth c ls X hr hlk hnm hsz hW hl
  have hl : lv_has ls 6 [(0, .ref (A (i))), (1, .int (iI ((a : Int)))), (2, .int (iI ((b : Int))))] := hl
  have lk_0 : ∀ w ∈ wsX110, w ∈ wsX11_result := by decide +kernel
  have lk_1 : Cond.fieldLink RX11 10 (TX11 0).1 (TX11 0).2.1 (TX11 0).2.2.1 ∈ wsX11_result := by decide +kernel
  have lk_2 : Cond.constantLong RX11 79 (2) ∈ wsX11_result := by decide +kernel
  have lk_3 : Cond.constantLong RX11 91 (-1) ∈ wsX11_result := by decide +kernel
  have hO : g i = .inr (11, [.ref (A (i + 1)), .ref (A (i + 2)), .ref (A (i + 3)), .ref (A (i + 4)), .int (iI (q 0)), .ref (A (i + 5)), .ref (A (i + 6)), .ref (A (i + 7)), .ref (A (i + 8)), .int (iI (q 1)), .ref (A (i + 9)), .ref (A (i + 10)), .ref (A (i + 11)), .int (iI (q 2)), .ref (A (i + 12)), .ref (A (i + 13)), .int (iI (q 3)), .ref (A (i + 14)), .ref (A (i + 15)), .ref (A (i + 16)), .int (iI (q 4))]) := hO
  have hOg := hO
  obtain ⟨P, hP⟩ : ∃ P, P = pz.natAbs := ⟨_, rfl⟩
  obtain ⟨GG, hGG⟩ : ∃ GG, GG = Nat.gcd P qn := ⟨_, rfl⟩
  have hGp : 0 < GG := by rw [hGG]; exact Nat.gcd_pos_of_pos_right _ hq0
  have hPG : P / GG ≤ P := Nat.div_le_self _ _
  have hPG0 := Int.natCast_nonneg (P / GG)
  have hGq : GG ≤ qn := by rw [hGG]; exact Nat.gcd_le_right _ hq0
  have hoth : ∀ x, 8 ≤ x → N x = N x := fun _ _ => rfl
  have hfr : ∀ j, j ≠ i + 1 → g j = g j := fun _ _ => rfl
  refine lv_aload_n X.1 X.2.1 dX11_result_0 rfl (lv_at hl 0 rfl) ?_
  refine x_iconst X dX11_result_1 ?_
  refine lv_iload_n X.1 X.2.1 dX11_result_2 rfl (lv_at hl 1 rfl) ?_
  refine x_cv (x_runV (k := 2) (As := [.int (iI (0)), .int (iI ((a : Int)))]) (rest := []) X hW (c_X11_copy l E A n _ g i 0 a q N hi hO (by omega) ha (by omega) hN) (by omega) hO rfl gX11_result_X11_copy rfl rfl rfl (by decide +kernel) ⟨by decide, by decide⟩ rfl hl.1 rfl (Nat.le_of_ble_eq_true rfl) dX11_result_3 ⟨Nat.zero_le _, Nat.zero_le _⟩) hW (fun g_3 H locs hp_3 hW => ?_)
  obtain ⟨hN, hf_3⟩ := hp_3
  obtain ⟨N_3, hN_3⟩ : ∃ N9 : Nat → Int, N9 = va_up N 0 (N a) := ⟨_, rfl⟩
  rw [← hN_3] at hN
  have hO : g_3 i = .inr (11, [.ref (A (i + 1)), .ref (A (i + 2)), .ref (A (i + 3)), .ref (A (i + 4)), .int (iI (q 0)), .ref (A (i + 5)), .ref (A (i + 6)), .ref (A (i + 7)), .ref (A (i + 8)), .int (iI (q 1)), .ref (A (i + 9)), .ref (A (i + 10)), .ref (A (i + 11)), .int (iI (q 2)), .ref (A (i + 12)), .ref (A (i + 13)), .int (iI (q 3)), .ref (A (i + 14)), .ref (A (i + 15)), .ref (A (i + 16)), .int (iI (q 4))]) := by rw [hf_3 _ (by omega)]; exact hO
  have v_0 : N_3 0 = pz := by rw [hN_3, va_up_self, hv]
  have hoth : ∀ x, 8 ≤ x → N_3 x = N x := fun x a8 => by rw [hN_3, va_up_ne _ _ (by omega)] <;> exact hoth x a8
  have hfr : ∀ j, j ≠ i + 1 → g_3 j = g j := fun j hj => (hf_3 j hj).trans (hfr j hj)
  refine lv_aload_n X.1 X.2.1 dX11_result_6 rfl (lv_at hl 0 rfl) ?_
  refine x_iconst X dX11_result_7 ?_
  refine lv_iload_n X.1 X.2.1 dX11_result_8 rfl (lv_at hl 2 rfl) ?_
  refine x_cv (x_runV (k := 2) (As := [.int (iI (1)), .int (iI ((b : Int)))]) (rest := []) X hW (c_X11_copy l E A n _ g_3 i 1 b q N_3 hi hO (by omega) hbb (by omega) hN) (by omega) hO rfl gX11_result_X11_copy rfl rfl rfl (by decide +kernel) ⟨by decide, by decide⟩ rfl hl.1 rfl (Nat.le_of_ble_eq_true rfl) dX11_result_9 ⟨Nat.zero_le _, Nat.zero_le _⟩) hW (fun g_9 H locs hp_9 hW => ?_)
  obtain ⟨hN, hf_9⟩ := hp_9
  obtain ⟨N_9, hN_9⟩ : ∃ N9 : Nat → Int, N9 = va_up N_3 1 (N_3 b) := ⟨_, rfl⟩
  rw [← hN_9] at hN
  have hO : g_9 i = .inr (11, [.ref (A (i + 1)), .ref (A (i + 2)), .ref (A (i + 3)), .ref (A (i + 4)), .int (iI (q 0)), .ref (A (i + 5)), .ref (A (i + 6)), .ref (A (i + 7)), .ref (A (i + 8)), .int (iI (q 1)), .ref (A (i + 9)), .ref (A (i + 10)), .ref (A (i + 11)), .int (iI (q 2)), .ref (A (i + 12)), .ref (A (i + 13)), .int (iI (q 3)), .ref (A (i + 14)), .ref (A (i + 15)), .ref (A (i + 16)), .int (iI (q 4))]) := by rw [hf_9 _ (by omega)]; exact hO
  have v_1 : N_9 1 = (qn : Int) := by rw [hN_9, va_up_self, hoth b hb8, hwv]
  have v_0 : N_9 0 = pz := by rw [hN_9, va_up_ne _ _ (by omega)]; exact v_0
  have hoth : ∀ x, 8 ≤ x → N_9 x = N x := fun x a8 => by rw [hN_9, va_up_ne _ _ (by omega)] <;> exact hoth x a8
  have hfr : ∀ j, j ≠ i + 1 → g_9 j = g j := fun j hj => (hf_9 j hj).trans (hfr j hj)
  obtain ⟨nf, h1, hNv⟩ := hN
  have hlt0 := lm_top (hNv 0 (by omega)).1 (hNv 0 (by omega)).2.1
  rw [v_0] at hlt0
  refine lv_aload_n X.1 X.2.1 dX11_result_12 rfl (lv_at hl 0 rfl) ?_
  refine x_get (C := RX11) (T := TX11) (N := 21) X hW (by omega) hO rfl lk_0 0 (by decide) lk_1 rfl dX11_result_13 ?_
  refine x_bipush X (by decide) dX11_result_16 ?_
  refine x_lald X hW (by omega) h1 (v := lI (lm pz 9)) (10 * 0 + 9) (by omega) (by omega) (by decide) (by have := (hNv 0 (by omega)).2.2 9 (by omega); rw [v_0] at this; exact this) dX11_result_18 ?_
  refine x_lconst X 0 (by decide) dX11_result_19 ?_
  refine x_lcmp_ge (tgt := 28) X hlt0.2 I64_0 dX11_result_20 dX11_result_21 (by decide) (fun b_20 => ?_) (fun b_20 => ?_)
  · have hsg : ¬ pz < 0 := fun h => by have := hlt0.1.mpr h; omega
    have hN : MN E A g_9 i N_9 := ⟨nf, h1, hNv⟩
    refine x_iconst X dX11_result_28 ?_
    refine lv_istore_n (lv' := [(3, .int (iI (0))), (0, .ref (A (i))), (1, .int (iI ((a : Int)))), (2, .int (iI ((b : Int))))]) X.1 X.2.1 dX11_result_29 rfl hl (by decide) rfl (fun ls hl => ?_)
    refine lv_iload_n X.1 X.2.1 dX11_result_30 rfl (lv_at hl 0 rfl) ?_
    refine x_if_eq (tgt := 42) X ⟨by decide, by decide⟩ dX11_result_31 (by decide) (fun b_31 => ?_) (fun b_31 => ?_)
    · have v_0 : N_9 0 = ((P : Nat) : Int) := by rw [v_0]; omega
      refine lv_aload_n X.1 X.2.1 dX11_result_42 rfl (lv_at hl 1 rfl) ?_
      refine x_iconst X dX11_result_43 ?_
      refine x_ci (x_runV (k := 1) (As := [.int (iI (0))]) (rest := []) X hW (c_X11_isZero l E A n _ g_9 i 0 q N_9 hi hO (by omega) hN) (by omega) hO rfl gX11_result_X11_isZero rfl rfl rfl (by decide +kernel) ⟨by decide, by decide⟩ rfl hl.1 rfl (Nat.le_of_ble_eq_true rfl) dX11_result_44 ⟨Nat.zero_le _, Nat.zero_le _⟩) hW (fun r_44 g_44 H locs hp_44 hW => ?_)
      obtain ⟨hr_44, he_44⟩ := hp_44
      rw [he_44] at hW
      rw [v_0] at hr_44
      subst hr_44
      refine x_if_eq (tgt := 57) X ⟨by split <;> decide, by split <;> decide⟩ dX11_result_47 (by decide) (fun b_47 => ?_) (fun b_47 => ?_)
      · have hP0 : 0 < P := Nat.pos_of_ne_zero (ifz_nz b_47)
        refine lv_aload_n X.1 X.2.1 dX11_result_57 rfl (lv_at hl 1 rfl) ?_
        refine x_iconst X dX11_result_58 ?_
        refine x_iconst X dX11_result_59 ?_
        refine x_cv (x_runV (k := 2) (As := [.int (iI (2)), .int (iI (0))]) (rest := []) X hW (c_X11_copy l E A n _ g_9 i 2 0 q N_9 hi hO (by omega) (by omega) (by omega) hN) (by omega) hO rfl gX11_result_X11_copy rfl rfl rfl (by decide +kernel) ⟨by decide, by decide⟩ rfl hl.1 rfl (Nat.le_of_ble_eq_true rfl) dX11_result_60 ⟨Nat.zero_le _, Nat.zero_le _⟩) hW (fun g_60 H locs hp_60 hW => ?_)
        obtain ⟨hN, hf_60⟩ := hp_60
        obtain ⟨N_60, hN_60⟩ : ∃ N9 : Nat → Int, N9 = va_up N_9 2 (N_9 0) := ⟨_, rfl⟩
        rw [← hN_60] at hN
        have hO : g_60 i = .inr (11, [.ref (A (i + 1)), .ref (A (i + 2)), .ref (A (i + 3)), .ref (A (i + 4)), .int (iI (q 0)), .ref (A (i + 5)), .ref (A (i + 6)), .ref (A (i + 7)), .ref (A (i + 8)), .int (iI (q 1)), .ref (A (i + 9)), .ref (A (i + 10)), .ref (A (i + 11)), .int (iI (q 2)), .ref (A (i + 12)), .ref (A (i + 13)), .int (iI (q 3)), .ref (A (i + 14)), .ref (A (i + 15)), .ref (A (i + 16)), .int (iI (q 4))]) := by rw [hf_60 _ (by omega)]; exact hO
        have v_2 : N_60 2 = ((P : Nat) : Int) := by rw [hN_60, va_up_self, v_0]
        have v_0 : N_60 0 = ((P : Nat) : Int) := by rw [hN_60, va_up_ne _ _ (by omega)]; exact v_0
        have v_1 : N_60 1 = (qn : Int) := by rw [hN_60, va_up_ne _ _ (by omega)]; exact v_1
        have hoth : ∀ x, 8 ≤ x → N_60 x = N x := fun x a8 => by rw [hN_60, va_up_ne _ _ (by omega)] <;> exact hoth x a8
        have hfr : ∀ j, j ≠ i + 1 → g_60 j = g j := fun j hj => (hf_60 j hj).trans (hfr j hj)
        refine lv_aload_n X.1 X.2.1 dX11_result_63 rfl (lv_at hl 1 rfl) ?_
        refine x_iconst X dX11_result_64 ?_
        refine x_iconst X dX11_result_65 ?_
        refine x_cv (x_runV (k := 2) (As := [.int (iI (3)), .int (iI (1))]) (rest := []) X hW (c_X11_copy l E A n _ g_60 i 3 1 q N_60 hi hO (by omega) (by omega) (by omega) hN) (by omega) hO rfl gX11_result_X11_copy rfl rfl rfl (by decide +kernel) ⟨by decide, by decide⟩ rfl hl.1 rfl (Nat.le_of_ble_eq_true rfl) dX11_result_66 ⟨Nat.zero_le _, Nat.zero_le _⟩) hW (fun g_66 H locs hp_66 hW => ?_)
        obtain ⟨hN, hf_66⟩ := hp_66
        obtain ⟨N_66, hN_66⟩ : ∃ N9 : Nat → Int, N9 = va_up N_60 3 (N_60 1) := ⟨_, rfl⟩
        rw [← hN_66] at hN
        have hO : g_66 i = .inr (11, [.ref (A (i + 1)), .ref (A (i + 2)), .ref (A (i + 3)), .ref (A (i + 4)), .int (iI (q 0)), .ref (A (i + 5)), .ref (A (i + 6)), .ref (A (i + 7)), .ref (A (i + 8)), .int (iI (q 1)), .ref (A (i + 9)), .ref (A (i + 10)), .ref (A (i + 11)), .int (iI (q 2)), .ref (A (i + 12)), .ref (A (i + 13)), .int (iI (q 3)), .ref (A (i + 14)), .ref (A (i + 15)), .ref (A (i + 16)), .int (iI (q 4))]) := by rw [hf_66 _ (by omega)]; exact hO
        have v_3 : N_66 3 = (qn : Int) := by rw [hN_66, va_up_self, v_1]
        have v_0 : N_66 0 = ((P : Nat) : Int) := by rw [hN_66, va_up_ne _ _ (by omega)]; exact v_0
        have v_1 : N_66 1 = (qn : Int) := by rw [hN_66, va_up_ne _ _ (by omega)]; exact v_1
        have v_2 : N_66 2 = ((P : Nat) : Int) := by rw [hN_66, va_up_ne _ _ (by omega)]; exact v_2
        have hoth : ∀ x, 8 ≤ x → N_66 x = N x := fun x a8 => by rw [hN_66, va_up_ne _ _ (by omega)] <;> exact hoth x a8
        have hfr : ∀ j, j ≠ i + 1 → g_66 j = g j := fun j hj => (hf_66 j hj).trans (hfr j hj)
        refine x_iconst X dX11_result_69 ?_
        refine x_seti (((0 : Nat) : Int)) rfl ?_
        refine lv_istore (lv' := [(4, .int (iI (((0 : Nat) : Int)))), (3, .int (iI (0))), (0, .ref (A (i))), (1, .int (iI ((a : Int)))), (2, .int (iI ((b : Int))))]) X.1 X.2.1 dX11_result_70 hl (by decide) rfl (fun ls hl => ?_)
        have loop_72 : ∀ (fuel : Nat) (u : Nat) (w : Nat) (tw : Nat) (Nw : Nat → Int) (g1 : Nat → va_E) (H : Heap) (locs : List Loc) (ls : Array Slot), (u + w) < fuel → (MN E A g1 i Nw) → (0 < u) → (0 < w) → (u ≤ P) → (w ≤ qn) → (GG = 2 ^ tw * Nat.gcd u w) → (Nw 0 = ((P : Nat) : Int)) → (Nw 1 = (qn : Int)) → (Nw 2 = ((u : Nat) : Int)) → (Nw 3 = ((w : Nat) : Int)) → (∀ x, 8 ≤ x → Nw x = N x) → (∀ j, j ≠ i + 1 → g1 j = g j) → wH E (wF A n sz) A n s g1 H locs → lv_has ls 6 [(0, .ref (A (i))), (1, .int (iI ((a : Int)))), (2, .int (iI ((b : Int)))), (3, .int (iI (0))), (4, .int (iI ((tw : Int))))] → W p l e ({ frames := 6, cells := 0, slots := 0, locals := 200 } : Room) s m [.ref (A (i)), .int (iI ((a : Int))), .int (iI ((b : Int)))].toArray below meth c H locs 0 0 (MQ below (va_Qv (fun g' => (∃ N' : Nat → Int, MN E A g' i N' ∧ N' 0 = rdT pz qn ∧ N' 1 = ((rdB pz qn : Nat) : Int) ∧ ∀ x, 8 ≤ x → N' x = N x) ∧ ∀ j, j ≠ i + 1 → g' j = g j) (wAt E A n) (wF A n sz)) [.ref (A (i)), .int (iI ((a : Int))), .int (iI ((b : Int)))].toArray s 0 0 (wF A n sz)) (F0 m 72 ls []) := by
          intro fuel
          induction fuel with
          | zero => intro u w tw Nw g1 H locs ls hm; exact absurd hm (Nat.not_lt_zero _)
          | succ fuel ih_72 =>
            intro u w tw Nw g1 H locs ls hm hN hu0 hw0 huP hwq hG v_0 v_1 v_2 v_3 hoth hfr hW hl
            have hO : g1 i = .inr (11, [.ref (A (i + 1)), .ref (A (i + 2)), .ref (A (i + 3)), .ref (A (i + 4)), .int (iI (q 0)), .ref (A (i + 5)), .ref (A (i + 6)), .ref (A (i + 7)), .ref (A (i + 8)), .int (iI (q 1)), .ref (A (i + 9)), .ref (A (i + 10)), .ref (A (i + 11)), .int (iI (q 2)), .ref (A (i + 12)), .ref (A (i + 13)), .int (iI (q 3)), .ref (A (i + 14)), .ref (A (i + 15)), .ref (A (i + 16)), .int (iI (q 4))]) := (hfr _ (by omega)).trans hOg
            have hgp : 0 < Nat.gcd u w := Nat.gcd_pos_of_pos_right _ hw0
            have htw : tw < 300 := two_lt (Nat.le_trans (Nat.le_mul_of_pos_right _ hgp) (by rw [← hG]; exact hGq)) hq6
            refine lv_aload_n X.1 X.2.1 dX11_result_72 rfl (lv_at hl 0 rfl) ?_
            refine x_iconst X dX11_result_73 ?_
            refine x_ci (x_runV (k := 1) (As := [.int (iI (2))]) (rest := []) X hW (c_X11_isEven l E A n _ g1 i 2 q Nw hi hO (by omega) hN) (by omega) hO rfl gX11_result_X11_isEven rfl rfl rfl (by decide +kernel) ⟨by decide, by decide⟩ rfl hl.1 rfl (Nat.le_of_ble_eq_true rfl) dX11_result_74 ⟨Nat.zero_le _, Nat.zero_le _⟩) hW (fun r_74 g_74 H locs hp_74 hW => ?_)
            obtain ⟨hr_74, he_74⟩ := hp_74
            rw [he_74] at hW
            rw [v_2] at hr_74
            subst hr_74
            refine x_if_eq (tgt := 110) X ⟨by split <;> decide, by split <;> decide⟩ dX11_result_77 (by decide) (fun b_77 => ?_) (fun b_77 => ?_)
            · have hod : u % 2 = 1 ∨ w % 2 = 1 := Or.inl (ifz_odd b_77)
              obtain ⟨gg, hgg⟩ : ∃ gg, gg = Nat.gcd u w := ⟨_, rfl⟩
              have hgo : gg % 2 = 1 := by rw [hgg]; exact gcd_odd hod
              rw [← hgg] at hG
              have loop_110 : ∀ (fuel : Nat) (u1 : Nat) (w1 : Nat) (Nw : Nat → Int) (g2 : Nat → va_E) (H : Heap) (locs : List Loc) (ls : Array Slot), (u1 + w1) < fuel → (MN E A g2 i Nw) → (0 < w1) → (u1 ≤ 10 ^ 60) → (w1 ≤ 10 ^ 60) → (Nat.gcd u1 w1 = gg) → (Nw 0 = ((P : Nat) : Int)) → (Nw 1 = (qn : Int)) → (Nw 2 = ((u1 : Nat) : Int)) → (Nw 3 = ((w1 : Nat) : Int)) → (∀ x, 8 ≤ x → Nw x = N x) → (∀ j, j ≠ i + 1 → g2 j = g j) → wH E (wF A n sz) A n s g2 H locs → lv_has ls 6 [(0, .ref (A (i))), (1, .int (iI ((a : Int)))), (2, .int (iI ((b : Int)))), (3, .int (iI (0))), (4, .int (iI ((tw : Int))))] → W p l e ({ frames := 6, cells := 0, slots := 0, locals := 200 } : Room) s m [.ref (A (i)), .int (iI ((a : Int))), .int (iI ((b : Int)))].toArray below meth c H locs 0 0 (MQ below (va_Qv (fun g' => (∃ N' : Nat → Int, MN E A g' i N' ∧ N' 0 = rdT pz qn ∧ N' 1 = ((rdB pz qn : Nat) : Int) ∧ ∀ x, 8 ≤ x → N' x = N x) ∧ ∀ j, j ≠ i + 1 → g' j = g j) (wAt E A n) (wF A n sz)) [.ref (A (i)), .int (iI ((a : Int))), .int (iI ((b : Int)))].toArray s 0 0 (wF A n sz)) (F0 m 110 ls []) := by
                intro fuel
                induction fuel with
                | zero => intro u1 w1 Nw g2 H locs ls hm; exact absurd hm (Nat.not_lt_zero _)
                | succ fuel ih_110 =>
                  intro u1 w1 Nw g2 H locs ls hm hN hw0 huP hwq hgg v_0 v_1 v_2 v_3 hoth hfr hW hl
                  have hO : g2 i = .inr (11, [.ref (A (i + 1)), .ref (A (i + 2)), .ref (A (i + 3)), .ref (A (i + 4)), .int (iI (q 0)), .ref (A (i + 5)), .ref (A (i + 6)), .ref (A (i + 7)), .ref (A (i + 8)), .int (iI (q 1)), .ref (A (i + 9)), .ref (A (i + 10)), .ref (A (i + 11)), .int (iI (q 2)), .ref (A (i + 12)), .ref (A (i + 13)), .int (iI (q 3)), .ref (A (i + 14)), .ref (A (i + 15)), .ref (A (i + 16)), .int (iI (q 4))]) := (hfr _ (by omega)).trans hOg
                  refine lv_aload_n X.1 X.2.1 dX11_result_110 rfl (lv_at hl 0 rfl) ?_
                  refine x_iconst X dX11_result_111 ?_
                  refine x_ci (x_runV (k := 1) (As := [.int (iI (2))]) (rest := []) X hW (c_X11_isZero l E A n _ g2 i 2 q Nw hi hO (by omega) hN) (by omega) hO rfl gX11_result_X11_isZero rfl rfl rfl (by decide +kernel) ⟨by decide, by decide⟩ rfl hl.1 rfl (Nat.le_of_ble_eq_true rfl) dX11_result_112 ⟨Nat.zero_le _, Nat.zero_le _⟩) hW (fun r_112 g_112 H locs hp_112 hW => ?_)
                  obtain ⟨hr_112, he_112⟩ := hp_112
                  rw [he_112] at hW
                  rw [v_2] at hr_112
                  subst hr_112
                  refine x_if_ne (tgt := 189) X ⟨by split <;> decide, by split <;> decide⟩ dX11_result_115 (by decide) (fun b_115 => ?_) (fun b_115 => ?_)
                  · have hu0 : u1 = 0 := ifz_z2 b_115
                    have hw1g : w1 = gg := by rw [← hgg, hu0, Nat.gcd_zero_left]
                    refine x_iconst X dX11_result_189 ?_
                    refine x_seti (((0 : Nat) : Int)) rfl ?_
                    refine lv_istore (lv' := [(5, .int (iI (((0 : Nat) : Int)))), (0, .ref (A (i))), (1, .int (iI ((a : Int)))), (2, .int (iI ((b : Int)))), (3, .int (iI (0))), (4, .int (iI ((tw : Int))))]) X.1 X.2.1 dX11_result_190 hl (by decide) rfl (fun ls hl => ?_)
                    have loop_192 : ∀ (fuel : Nat) (kk : Nat) (Nw : Nat → Int) (g5 : Nat → va_E) (H : Heap) (locs : List Loc) (ls : Array Slot), (tw - kk) < fuel → (MN E A g5 i Nw) → (kk ≤ tw) → (Nw 0 = ((P : Nat) : Int)) → (Nw 1 = (qn : Int)) → (Nw 2 = ((u1 : Nat) : Int)) → (Nw 3 = ((gg * 2 ^ kk : Nat) : Int)) → (∀ x, 8 ≤ x → Nw x = N x) → (∀ j, j ≠ i + 1 → g5 j = g j) → wH E (wF A n sz) A n s g5 H locs → lv_has ls 6 [(0, .ref (A (i))), (1, .int (iI ((a : Int)))), (2, .int (iI ((b : Int)))), (3, .int (iI (0))), (4, .int (iI ((tw : Int)))), (5, .int (iI ((kk : Int))))] → W p l e ({ frames := 6, cells := 0, slots := 0, locals := 200 } : Room) s m [.ref (A (i)), .int (iI ((a : Int))), .int (iI ((b : Int)))].toArray below meth c H locs 0 0 (MQ below (va_Qv (fun g' => (∃ N' : Nat → Int, MN E A g' i N' ∧ N' 0 = rdT pz qn ∧ N' 1 = ((rdB pz qn : Nat) : Int) ∧ ∀ x, 8 ≤ x → N' x = N x) ∧ ∀ j, j ≠ i + 1 → g' j = g j) (wAt E A n) (wF A n sz)) [.ref (A (i)), .int (iI ((a : Int))), .int (iI ((b : Int)))].toArray s 0 0 (wF A n sz)) (F0 m 192 ls []) := by
                      intro fuel
                      induction fuel with
                      | zero => intro kk Nw g5 H locs ls hm; exact absurd hm (Nat.not_lt_zero _)
                      | succ fuel ih_192 =>
                        intro kk Nw g5 H locs ls hm hN hkk v_0 v_1 v_2 v_3 hoth hfr hW hl
                        have hO : g5 i = .inr (11, [.ref (A (i + 1)), .ref (A (i + 2)), .ref (A (i + 3)), .ref (A (i + 4)), .int (iI (q 0)), .ref (A (i + 5)), .ref (A (i + 6)), .ref (A (i + 7)), .ref (A (i + 8)), .int (iI (q 1)), .ref (A (i + 9)), .ref (A (i + 10)), .ref (A (i + 11)), .int (iI (q 2)), .ref (A (i + 12)), .ref (A (i + 13)), .int (iI (q 3)), .ref (A (i + 14)), .ref (A (i + 15)), .ref (A (i + 16)), .int (iI (q 4))]) := (hfr _ (by omega)).trans hOg
                        have hkp : gg * 2 ^ kk ≤ GG := by rw [hG, Nat.mul_comm]; exact Nat.mul_le_mul_right _ (Nat.pow_le_pow_right (by decide) hkk)
                        refine lv_iload X.1 X.2.1 dX11_result_192 (lv_at hl 5 rfl) ?_
                        refine lv_iload X.1 X.2.1 dX11_result_194 (lv_at hl 4 rfl) ?_
                        refine x_icmp_ge (tgt := 213) X ⟨by omega, by omega⟩ ⟨by omega, by omega⟩ dX11_result_196 (by decide) (fun b_196 => ?_) (fun b_196 => ?_)
                        · have hkt : gg * 2 ^ kk = GG := by rw [show kk = tw from by omega, hG, Nat.mul_comm]
                          rw [hkt] at v_3
                          refine lv_aload_n X.1 X.2.1 dX11_result_213 rfl (lv_at hl 0 rfl) ?_
                          refine x_iconst X dX11_result_214 ?_
                          refine x_iconst X dX11_result_215 ?_
                          refine x_cv (x_runV (k := 2) (As := [.int (iI (4)), .int (iI (3))]) (rest := []) X hW (c_X11_copy l E A n _ g5 i 4 3 q Nw hi hO (by omega) (by omega) (by omega) hN) (by omega) hO rfl gX11_result_X11_copy rfl rfl rfl (by decide +kernel) ⟨by decide, by decide⟩ rfl hl.1 rfl (Nat.le_of_ble_eq_true rfl) dX11_result_216 ⟨Nat.zero_le _, Nat.zero_le _⟩) hW (fun g_216 H locs hp_216 hW => ?_)
                          obtain ⟨hN, hf_216⟩ := hp_216
                          obtain ⟨N_216, hN_216⟩ : ∃ N9 : Nat → Int, N9 = va_up Nw 4 (Nw 3) := ⟨_, rfl⟩
                          rw [← hN_216] at hN
                          have hO : g_216 i = .inr (11, [.ref (A (i + 1)), .ref (A (i + 2)), .ref (A (i + 3)), .ref (A (i + 4)), .int (iI (q 0)), .ref (A (i + 5)), .ref (A (i + 6)), .ref (A (i + 7)), .ref (A (i + 8)), .int (iI (q 1)), .ref (A (i + 9)), .ref (A (i + 10)), .ref (A (i + 11)), .int (iI (q 2)), .ref (A (i + 12)), .ref (A (i + 13)), .int (iI (q 3)), .ref (A (i + 14)), .ref (A (i + 15)), .ref (A (i + 16)), .int (iI (q 4))]) := by rw [hf_216 _ (by omega)]; exact hO
                          have v_4 : N_216 4 = ((GG : Nat) : Int) := by rw [hN_216, va_up_self, v_3]
                          have v_0 : N_216 0 = ((P : Nat) : Int) := by rw [hN_216, va_up_ne _ _ (by omega)]; exact v_0
                          have v_1 : N_216 1 = (qn : Int) := by rw [hN_216, va_up_ne _ _ (by omega)]; exact v_1
                          have v_2 : N_216 2 = ((u1 : Nat) : Int) := by rw [hN_216, va_up_ne _ _ (by omega)]; exact v_2
                          have v_3 : N_216 3 = ((GG : Nat) : Int) := by rw [hN_216, va_up_ne _ _ (by omega)]; exact v_3
                          have hoth : ∀ x, 8 ≤ x → N_216 x = N x := fun x a8 => by rw [hN_216, va_up_ne _ _ (by omega)] <;> exact hoth x a8
                          have hfr : ∀ j, j ≠ i + 1 → g_216 j = g j := fun j hj => (hf_216 j hj).trans (hfr j hj)
                          refine lv_aload_n X.1 X.2.1 dX11_result_219 rfl (lv_at hl 0 rfl) ?_
                          refine x_iconst X dX11_result_220 ?_
                          refine x_iconst X dX11_result_221 ?_
                          refine x_cv (x_runV (k := 2) (As := [.int (iI (0)), .int (iI (4))]) (rest := []) X hW (c_X11_parted l E A n _ g_216 i 0 4 q N_216 (P) GG hi hO (by omega) (by omega) (by omega) (by omega) (by omega) (by omega) (by omega) (by omega) (by omega) hN v_0 v_4 hGp (by omega) (by omega)) (by omega) hO rfl gX11_result_X11_parted rfl rfl rfl (by decide +kernel) ⟨by decide, by decide⟩ rfl hl.1 rfl (Nat.le_of_ble_eq_true rfl) dX11_result_222 ⟨Nat.zero_le _, Nat.zero_le _⟩) hW (fun g_222 H locs hp_222 hW => ?_)
                          obtain ⟨⟨N_222, hN, w_0, hnx_222⟩, hf_222⟩ := hp_222
                          have hO : g_222 i = .inr (11, [.ref (A (i + 1)), .ref (A (i + 2)), .ref (A (i + 3)), .ref (A (i + 4)), .int (iI (q 0)), .ref (A (i + 5)), .ref (A (i + 6)), .ref (A (i + 7)), .ref (A (i + 8)), .int (iI (q 1)), .ref (A (i + 9)), .ref (A (i + 10)), .ref (A (i + 11)), .int (iI (q 2)), .ref (A (i + 12)), .ref (A (i + 13)), .int (iI (q 3)), .ref (A (i + 14)), .ref (A (i + 15)), .ref (A (i + 16)), .int (iI (q 4))]) := by rw [hf_222 _ (by omega)]; exact hO
                          have v_1 : N_222 1 = (qn : Int) := by rw [hnx_222 _ (by omega) (by omega) (by omega) (by omega)]; exact v_1
                          have v_4 : N_222 4 = ((GG : Nat) : Int) := by rw [hnx_222 _ (by omega) (by omega) (by omega) (by omega)]; exact v_4
                          have v_0 : N_222 0 = ((P / GG : Nat) : Int) := w_0
                          have hoth : ∀ x, 8 ≤ x → N_222 x = N x := fun x a8 => by rw [hnx_222 x (by omega) (by omega) (by omega) (by omega)]; exact hoth x a8
                          have hfr : ∀ j, j ≠ i + 1 → g_222 j = g j := fun j hj => (hf_222 j hj).trans (hfr j hj)
                          refine lv_aload_n X.1 X.2.1 dX11_result_225 rfl (lv_at hl 0 rfl) ?_
                          refine x_iconst X dX11_result_226 ?_
                          refine x_iconst X dX11_result_227 ?_
                          refine x_cv (x_runV (k := 2) (As := [.int (iI (1)), .int (iI (4))]) (rest := []) X hW (c_X11_parted l E A n _ g_222 i 1 4 q N_222 (qn) GG hi hO (by omega) (by omega) (by omega) (by omega) (by omega) (by omega) (by omega) (by omega) (by omega) hN v_1 v_4 hGp (by omega) (by omega)) (by omega) hO rfl gX11_result_X11_parted rfl rfl rfl (by decide +kernel) ⟨by decide, by decide⟩ rfl hl.1 rfl (Nat.le_of_ble_eq_true rfl) dX11_result_228 ⟨Nat.zero_le _, Nat.zero_le _⟩) hW (fun g_228 H locs hp_228 hW => ?_)
                          obtain ⟨⟨N_228, hN, w_1, hnx_228⟩, hf_228⟩ := hp_228
                          have hO : g_228 i = .inr (11, [.ref (A (i + 1)), .ref (A (i + 2)), .ref (A (i + 3)), .ref (A (i + 4)), .int (iI (q 0)), .ref (A (i + 5)), .ref (A (i + 6)), .ref (A (i + 7)), .ref (A (i + 8)), .int (iI (q 1)), .ref (A (i + 9)), .ref (A (i + 10)), .ref (A (i + 11)), .int (iI (q 2)), .ref (A (i + 12)), .ref (A (i + 13)), .int (iI (q 3)), .ref (A (i + 14)), .ref (A (i + 15)), .ref (A (i + 16)), .int (iI (q 4))]) := by rw [hf_228 _ (by omega)]; exact hO
                          have v_4 : N_228 4 = ((GG : Nat) : Int) := by rw [hnx_228 _ (by omega) (by omega) (by omega) (by omega)]; exact v_4
                          have v_0 : N_228 0 = ((P / GG : Nat) : Int) := by rw [hnx_228 _ (by omega) (by omega) (by omega) (by omega)]; exact v_0
                          have v_1 : N_228 1 = ((qn / GG : Nat) : Int) := w_1
                          have hoth : ∀ x, 8 ≤ x → N_228 x = N x := fun x a8 => by rw [hnx_228 x (by omega) (by omega) (by omega) (by omega)]; exact hoth x a8
                          have hfr : ∀ j, j ≠ i + 1 → g_228 j = g j := fun j hj => (hf_228 j hj).trans (hfr j hj)
                          refine lv_iload_n X.1 X.2.1 dX11_result_231 rfl (lv_at hl 3 rfl) ?_
                          refine x_if_eq (tgt := 243) X ⟨by decide, by decide⟩ dX11_result_232 (by decide) (fun b_232 => ?_) (fun b_232 => ?_)
                          · exact x_vret X hr hlk hW (⟨⟨N_228, hN, by rw [v_0]; exact rdT_pos hsg hP hGG, by rw [v_1]; unfold rdB; rw [← hP, ← hGG], hoth⟩, hfr⟩) dX11_result_243
                          · exact absurd (by decide) b_232
                        · have hp2k : ((gg * 2 ^ kk : Nat) : Int) * 2 = ((gg * 2 ^ (kk + 1) : Nat) : Int) := by rw [Nat.pow_succ, ← Nat.mul_assoc]; omega
                          refine lv_aload_n X.1 X.2.1 dX11_result_199 rfl (lv_at hl 0 rfl) ?_
                          refine x_iconst X dX11_result_200 ?_
                          refine x_ldc2 X (2) (by decide) lk_2 dX11_result_201 ?_
                          refine x_cv (x_runV (k := 2) (As := [.int (iI (3)), .long (lI (2))]) (rest := []) X hW (c_X11_times l E A n _ g5 i 3 q Nw 2 hi hO (by omega) hN (by decide) (by decide) (by rw [v_3]; omega) (by rw [v_3]; omega)) (by omega) hO rfl gX11_result_X11_times rfl rfl rfl (by decide +kernel) ⟨by decide, by decide⟩ rfl hl.1 rfl (Nat.le_of_ble_eq_true rfl) dX11_result_204 ⟨Nat.zero_le _, Nat.zero_le _⟩) hW (fun g_204 H locs hp_204 hW => ?_)
                          obtain ⟨hN, hf_204⟩ := hp_204
                          obtain ⟨N_204, hN_204⟩ : ∃ N9 : Nat → Int, N9 = va_up Nw 3 (Nw 3 * 2) := ⟨_, rfl⟩
                          rw [← hN_204] at hN
                          have hO : g_204 i = .inr (11, [.ref (A (i + 1)), .ref (A (i + 2)), .ref (A (i + 3)), .ref (A (i + 4)), .int (iI (q 0)), .ref (A (i + 5)), .ref (A (i + 6)), .ref (A (i + 7)), .ref (A (i + 8)), .int (iI (q 1)), .ref (A (i + 9)), .ref (A (i + 10)), .ref (A (i + 11)), .int (iI (q 2)), .ref (A (i + 12)), .ref (A (i + 13)), .int (iI (q 3)), .ref (A (i + 14)), .ref (A (i + 15)), .ref (A (i + 16)), .int (iI (q 4))]) := by rw [hf_204 _ (by omega)]; exact hO
                          have v_3 : N_204 3 = ((gg * 2 ^ (kk + 1) : Nat) : Int) := by rw [hN_204, va_up_self, v_3, hp2k]
                          have v_0 : N_204 0 = ((P : Nat) : Int) := by rw [hN_204, va_up_ne _ _ (by omega)]; exact v_0
                          have v_1 : N_204 1 = (qn : Int) := by rw [hN_204, va_up_ne _ _ (by omega)]; exact v_1
                          have v_2 : N_204 2 = ((u1 : Nat) : Int) := by rw [hN_204, va_up_ne _ _ (by omega)]; exact v_2
                          have hoth : ∀ x, 8 ≤ x → N_204 x = N x := fun x a8 => by rw [hN_204, va_up_ne _ _ (by omega)] <;> exact hoth x a8
                          have hfr : ∀ j, j ≠ i + 1 → g_204 j = g j := fun j hj => (hf_204 j hj).trans (hfr j hj)
                          refine lv_iinc (v := iI (((kk + 1 : Nat) : Int))) (lv' := [(5, .int (iI (((kk + 1 : Nat) : Int)))), (0, .ref (A (i))), (1, .int (iI ((a : Int)))), (2, .int (iI ((b : Int)))), (3, .int (iI (0))), (4, .int (iI ((tw : Int))))]) X.1 X.2.1 dX11_result_207 hl (k := 5) rfl (by rw [show (Int32.ofInt (1)) = iI (1) from rfl, iI_add]; rfl) (by decide) rfl (fun ls hl => ?_)
                          refine lv_goto (tgt := 192) X.1 X.2.1 dX11_result_210 (by decide) ?_
                          exact ih_192 (kk + 1) N_204 g_204 _ _ _ (by omega) hN (by omega) v_0 v_1 v_2 v_3 hoth hfr hW (lv_sub hl [1, 2, 3, 4, 5, 0] rfl)
                    exact loop_192 _ 0 Nw g2 _ _ _ (Nat.lt_succ_self _) hN (Nat.zero_le _) v_0 v_1 v_2 (by rw [v_3, hw1g, Nat.pow_zero, Nat.mul_one]) hoth hfr hW (lv_sub hl [1, 2, 3, 4, 5, 0] rfl)
                  · have hu0 : 0 < u1 := Nat.pos_of_ne_zero (ifz_nz b_115)
                    have loop_118 : ∀ (fuel : Nat) (u2 : Nat) (Nw : Nat → Int) (g3 : Nat → va_E) (H : Heap) (locs : List Loc) (ls : Array Slot), (u2) < fuel → (MN E A g3 i Nw) → (0 < u2) → (u2 ≤ u1) → (Nat.gcd u2 w1 = gg) → (Nw 0 = ((P : Nat) : Int)) → (Nw 1 = (qn : Int)) → (Nw 2 = ((u2 : Nat) : Int)) → (Nw 3 = ((w1 : Nat) : Int)) → (∀ x, 8 ≤ x → Nw x = N x) → (∀ j, j ≠ i + 1 → g3 j = g j) → wH E (wF A n sz) A n s g3 H locs → lv_has ls 6 [(0, .ref (A (i))), (1, .int (iI ((a : Int)))), (2, .int (iI ((b : Int)))), (3, .int (iI (0))), (4, .int (iI ((tw : Int))))] → W p l e ({ frames := 6, cells := 0, slots := 0, locals := 200 } : Room) s m [.ref (A (i)), .int (iI ((a : Int))), .int (iI ((b : Int)))].toArray below meth c H locs 0 0 (MQ below (va_Qv (fun g' => (∃ N' : Nat → Int, MN E A g' i N' ∧ N' 0 = rdT pz qn ∧ N' 1 = ((rdB pz qn : Nat) : Int) ∧ ∀ x, 8 ≤ x → N' x = N x) ∧ ∀ j, j ≠ i + 1 → g' j = g j) (wAt E A n) (wF A n sz)) [.ref (A (i)), .int (iI ((a : Int))), .int (iI ((b : Int)))].toArray s 0 0 (wF A n sz)) (F0 m 118 ls []) := by
                      intro fuel
                      induction fuel with
                      | zero => intro u2 Nw g3 H locs ls hm; exact absurd hm (Nat.not_lt_zero _)
                      | succ fuel ih_118 =>
                        intro u2 Nw g3 H locs ls hm hN hu2 hu3 hg1 v_0 v_1 v_2 v_3 hoth hfr hW hl
                        have hO : g3 i = .inr (11, [.ref (A (i + 1)), .ref (A (i + 2)), .ref (A (i + 3)), .ref (A (i + 4)), .int (iI (q 0)), .ref (A (i + 5)), .ref (A (i + 6)), .ref (A (i + 7)), .ref (A (i + 8)), .int (iI (q 1)), .ref (A (i + 9)), .ref (A (i + 10)), .ref (A (i + 11)), .int (iI (q 2)), .ref (A (i + 12)), .ref (A (i + 13)), .int (iI (q 3)), .ref (A (i + 14)), .ref (A (i + 15)), .ref (A (i + 16)), .int (iI (q 4))]) := (hfr _ (by omega)).trans hOg
                        refine lv_aload_n X.1 X.2.1 dX11_result_118 rfl (lv_at hl 0 rfl) ?_
                        refine x_iconst X dX11_result_119 ?_
                        refine x_ci (x_runV (k := 1) (As := [.int (iI (2))]) (rest := []) X hW (c_X11_isEven l E A n _ g3 i 2 q Nw hi hO (by omega) hN) (by omega) hO rfl gX11_result_X11_isEven rfl rfl rfl (by decide +kernel) ⟨by decide, by decide⟩ rfl hl.1 rfl (Nat.le_of_ble_eq_true rfl) dX11_result_120 ⟨Nat.zero_le _, Nat.zero_le _⟩) hW (fun r_120 g_120 H locs hp_120 hW => ?_)
                        obtain ⟨hr_120, he_120⟩ := hp_120
                        rw [he_120] at hW
                        rw [v_2] at hr_120
                        subst hr_120
                        refine x_if_eq (tgt := 137) X ⟨by split <;> decide, by split <;> decide⟩ dX11_result_123 (by decide) (fun b_123 => ?_) (fun b_123 => ?_)
                        · have huo : u2 % 2 = 1 := ifz_odd b_123
                          have loop_137 : ∀ (fuel : Nat) (w2 : Nat) (Nw : Nat → Int) (g4 : Nat → va_E) (H : Heap) (locs : List Loc) (ls : Array Slot), (w2) < fuel → (MN E A g4 i Nw) → (0 < w2) → (w2 ≤ w1) → (Nat.gcd u2 w2 = gg) → (Nw 0 = ((P : Nat) : Int)) → (Nw 1 = (qn : Int)) → (Nw 2 = ((u2 : Nat) : Int)) → (Nw 3 = ((w2 : Nat) : Int)) → (∀ x, 8 ≤ x → Nw x = N x) → (∀ j, j ≠ i + 1 → g4 j = g j) → wH E (wF A n sz) A n s g4 H locs → lv_has ls 6 [(0, .ref (A (i))), (1, .int (iI ((a : Int)))), (2, .int (iI ((b : Int)))), (3, .int (iI (0))), (4, .int (iI ((tw : Int))))] → W p l e ({ frames := 6, cells := 0, slots := 0, locals := 200 } : Room) s m [.ref (A (i)), .int (iI ((a : Int))), .int (iI ((b : Int)))].toArray below meth c H locs 0 0 (MQ below (va_Qv (fun g' => (∃ N' : Nat → Int, MN E A g' i N' ∧ N' 0 = rdT pz qn ∧ N' 1 = ((rdB pz qn : Nat) : Int) ∧ ∀ x, 8 ≤ x → N' x = N x) ∧ ∀ j, j ≠ i + 1 → g' j = g j) (wAt E A n) (wF A n sz)) [.ref (A (i)), .int (iI ((a : Int))), .int (iI ((b : Int)))].toArray s 0 0 (wF A n sz)) (F0 m 137 ls []) := by
                            intro fuel
                            induction fuel with
                            | zero => intro w2 Nw g4 H locs ls hm; exact absurd hm (Nat.not_lt_zero _)
                            | succ fuel ih_137 =>
                              intro w2 Nw g4 H locs ls hm hN hw2 hw3 hg2 v_0 v_1 v_2 v_3 hoth hfr hW hl
                              have hO : g4 i = .inr (11, [.ref (A (i + 1)), .ref (A (i + 2)), .ref (A (i + 3)), .ref (A (i + 4)), .int (iI (q 0)), .ref (A (i + 5)), .ref (A (i + 6)), .ref (A (i + 7)), .ref (A (i + 8)), .int (iI (q 1)), .ref (A (i + 9)), .ref (A (i + 10)), .ref (A (i + 11)), .int (iI (q 2)), .ref (A (i + 12)), .ref (A (i + 13)), .int (iI (q 3)), .ref (A (i + 14)), .ref (A (i + 15)), .ref (A (i + 16)), .int (iI (q 4))]) := (hfr _ (by omega)).trans hOg
                              refine lv_aload_n X.1 X.2.1 dX11_result_137 rfl (lv_at hl 0 rfl) ?_
                              refine x_iconst X dX11_result_138 ?_
                              refine x_ci (x_runV (k := 1) (As := [.int (iI (3))]) (rest := []) X hW (c_X11_isEven l E A n _ g4 i 3 q Nw hi hO (by omega) hN) (by omega) hO rfl gX11_result_X11_isEven rfl rfl rfl (by decide +kernel) ⟨by decide, by decide⟩ rfl hl.1 rfl (Nat.le_of_ble_eq_true rfl) dX11_result_139 ⟨Nat.zero_le _, Nat.zero_le _⟩) hW (fun r_139 g_139 H locs hp_139 hW => ?_)
                              obtain ⟨hr_139, he_139⟩ := hp_139
                              rw [he_139] at hW
                              rw [v_3] at hr_139
                              subst hr_139
                              refine x_if_eq (tgt := 156) X ⟨by split <;> decide, by split <;> decide⟩ dX11_result_142 (by decide) (fun b_142 => ?_) (fun b_142 => ?_)
                              · have hwo : w2 % 2 = 1 := ifz_odd b_142
                                refine lv_aload_n X.1 X.2.1 dX11_result_156 rfl (lv_at hl 0 rfl) ?_
                                refine x_iconst X dX11_result_157 ?_
                                refine x_iconst X dX11_result_158 ?_
                                refine x_ci (x_runV (k := 2) (As := [.int (iI (2)), .int (iI (3))]) (rest := []) X hW (c_X11_compared l E A n _ g4 i 2 3 q Nw hi hO (by omega) (by omega) hN) (by omega) hO rfl gX11_result_X11_compared rfl rfl rfl (by decide +kernel) ⟨by decide, by decide⟩ rfl hl.1 rfl (Nat.le_of_ble_eq_true rfl) dX11_result_159 ⟨Nat.zero_le _, Nat.zero_le _⟩) hW (fun r_159 g_159 H locs hp_159 hW => ?_)
                                obtain ⟨hr_159, he_159⟩ := hp_159
                                rw [he_159] at hW
                                rw [v_2, v_3] at hr_159
                                subst hr_159
                                refine x_if_lt (tgt := 177) X ⟨by repeat (first | decide | split), by repeat (first | decide | split)⟩ dX11_result_162 (by decide) (fun b_162 => ?_) (fun b_162 => ?_)
                                · have hlt2 : u2 < w2 := cmp_lt b_162
                                  have hm2 : ((w2 : Nat) : Int) + ((u2 : Nat) : Int) * -1 = ((w2 - u2 : Nat) : Int) := by omega
                                  refine lv_aload_n X.1 X.2.1 dX11_result_177 rfl (lv_at hl 0 rfl) ?_
                                  refine x_iconst X dX11_result_178 ?_
                                  refine x_iconst X dX11_result_179 ?_
                                  refine x_ldc2 X (-1) (by decide) lk_3 dX11_result_180 ?_
                                  refine x_cv (x_runV (k := 3) (As := [.int (iI (3)), .int (iI (2)), .long (lI ((-1)))]) (rest := []) X hW (c_X11_more l E A n _ g4 i 3 2 q Nw (-1) hi hO (by omega) (by omega) (by omega) hN (by decide) (by decide) (by rw [v_2, v_3]; omega) (by rw [v_2, v_3]; omega)) (by omega) hO rfl gX11_result_X11_more rfl rfl rfl (by decide +kernel) ⟨by decide, by decide⟩ rfl hl.1 rfl (Nat.le_of_ble_eq_true rfl) dX11_result_183 ⟨Nat.zero_le _, Nat.zero_le _⟩) hW (fun g_183 H locs hp_183 hW => ?_)
                                  obtain ⟨hN, hf_183⟩ := hp_183
                                  obtain ⟨N_183, hN_183⟩ : ∃ N9 : Nat → Int, N9 = va_up Nw 3 (Nw 3 + Nw 2 * -1) := ⟨_, rfl⟩
                                  rw [← hN_183] at hN
                                  have hO : g_183 i = .inr (11, [.ref (A (i + 1)), .ref (A (i + 2)), .ref (A (i + 3)), .ref (A (i + 4)), .int (iI (q 0)), .ref (A (i + 5)), .ref (A (i + 6)), .ref (A (i + 7)), .ref (A (i + 8)), .int (iI (q 1)), .ref (A (i + 9)), .ref (A (i + 10)), .ref (A (i + 11)), .int (iI (q 2)), .ref (A (i + 12)), .ref (A (i + 13)), .int (iI (q 3)), .ref (A (i + 14)), .ref (A (i + 15)), .ref (A (i + 16)), .int (iI (q 4))]) := by rw [hf_183 _ (by omega)]; exact hO
                                  have v_3 : N_183 3 = ((w2 - u2 : Nat) : Int) := by rw [hN_183, va_up_self, v_3, v_2, hm2]
                                  have v_0 : N_183 0 = ((P : Nat) : Int) := by rw [hN_183, va_up_ne _ _ (by omega)]; exact v_0
                                  have v_1 : N_183 1 = (qn : Int) := by rw [hN_183, va_up_ne _ _ (by omega)]; exact v_1
                                  have v_2 : N_183 2 = ((u2 : Nat) : Int) := by rw [hN_183, va_up_ne _ _ (by omega)]; exact v_2
                                  have hoth : ∀ x, 8 ≤ x → N_183 x = N x := fun x a8 => by rw [hN_183, va_up_ne _ _ (by omega)] <;> exact hoth x a8
                                  have hfr : ∀ j, j ≠ i + 1 → g_183 j = g j := fun j hj => (hf_183 j hj).trans (hfr j hj)
                                  refine lv_goto (tgt := 110) X.1 X.2.1 dX11_result_186 (by decide) ?_
                                  exact ih_110 u2 (w2 - u2) N_183 g_183 _ _ _ (by omega) hN (by omega) (by omega) (by omega) (by rw [Nat.gcd_comm, gcd_take (by omega), Nat.gcd_comm]; exact hg2) v_0 v_1 v_2 v_3 hoth hfr hW (lv_sub hl [0, 1, 2, 3, 4] rfl)
                                · have hlt2 : w2 ≤ u2 := cmp_ge b_162
                                  have hm1 : ((u2 : Nat) : Int) + ((w2 : Nat) : Int) * -1 = ((u2 - w2 : Nat) : Int) := by omega
                                  refine lv_aload_n X.1 X.2.1 dX11_result_165 rfl (lv_at hl 0 rfl) ?_
                                  refine x_iconst X dX11_result_166 ?_
                                  refine x_iconst X dX11_result_167 ?_
                                  refine x_ldc2 X (-1) (by decide) lk_3 dX11_result_168 ?_
                                  refine x_cv (x_runV (k := 3) (As := [.int (iI (2)), .int (iI (3)), .long (lI ((-1)))]) (rest := []) X hW (c_X11_more l E A n _ g4 i 2 3 q Nw (-1) hi hO (by omega) (by omega) (by omega) hN (by decide) (by decide) (by rw [v_2, v_3]; omega) (by rw [v_2, v_3]; omega)) (by omega) hO rfl gX11_result_X11_more rfl rfl rfl (by decide +kernel) ⟨by decide, by decide⟩ rfl hl.1 rfl (Nat.le_of_ble_eq_true rfl) dX11_result_171 ⟨Nat.zero_le _, Nat.zero_le _⟩) hW (fun g_171 H locs hp_171 hW => ?_)
                                  obtain ⟨hN, hf_171⟩ := hp_171
                                  obtain ⟨N_171, hN_171⟩ : ∃ N9 : Nat → Int, N9 = va_up Nw 2 (Nw 2 + Nw 3 * -1) := ⟨_, rfl⟩
                                  rw [← hN_171] at hN
                                  have hO : g_171 i = .inr (11, [.ref (A (i + 1)), .ref (A (i + 2)), .ref (A (i + 3)), .ref (A (i + 4)), .int (iI (q 0)), .ref (A (i + 5)), .ref (A (i + 6)), .ref (A (i + 7)), .ref (A (i + 8)), .int (iI (q 1)), .ref (A (i + 9)), .ref (A (i + 10)), .ref (A (i + 11)), .int (iI (q 2)), .ref (A (i + 12)), .ref (A (i + 13)), .int (iI (q 3)), .ref (A (i + 14)), .ref (A (i + 15)), .ref (A (i + 16)), .int (iI (q 4))]) := by rw [hf_171 _ (by omega)]; exact hO
                                  have v_2 : N_171 2 = ((u2 - w2 : Nat) : Int) := by rw [hN_171, va_up_self, v_2, v_3, hm1]
                                  have v_0 : N_171 0 = ((P : Nat) : Int) := by rw [hN_171, va_up_ne _ _ (by omega)]; exact v_0
                                  have v_1 : N_171 1 = (qn : Int) := by rw [hN_171, va_up_ne _ _ (by omega)]; exact v_1
                                  have v_3 : N_171 3 = ((w2 : Nat) : Int) := by rw [hN_171, va_up_ne _ _ (by omega)]; exact v_3
                                  have hoth : ∀ x, 8 ≤ x → N_171 x = N x := fun x a8 => by rw [hN_171, va_up_ne _ _ (by omega)] <;> exact hoth x a8
                                  have hfr : ∀ j, j ≠ i + 1 → g_171 j = g j := fun j hj => (hf_171 j hj).trans (hfr j hj)
                                  refine lv_goto (tgt := 110) X.1 X.2.1 dX11_result_174 (by decide) ?_
                                  exact ih_110 (u2 - w2) w2 N_171 g_171 _ _ _ (by omega) hN hw2 (by omega) (by omega) (by rw [gcd_take (by omega)]; exact hg2) v_0 v_1 v_2 v_3 hoth hfr hW (lv_sub hl [0, 1, 2, 3, 4] rfl)
                              · have hwe : w2 % 2 = 0 := ifz_even b_142
                                refine lv_aload_n X.1 X.2.1 dX11_result_145 rfl (lv_at hl 0 rfl) ?_
                                refine x_iconst X dX11_result_146 ?_
                                refine x_ldc2 X (2) (by decide) lk_2 dX11_result_147 ?_
                                refine x_cv (x_runV (k := 2) (As := [.int (iI (3)), .long (lI (2))]) (rest := []) X hW (c_X11_over l E A n _ g4 i 3 q Nw (w2) 2 hi hO (by omega) hN v_3 (by decide) (by decide)) (by omega) hO rfl gX11_result_X11_over rfl rfl rfl (by decide +kernel) ⟨by decide, by decide⟩ rfl hl.1 rfl (Nat.le_of_ble_eq_true rfl) dX11_result_150 ⟨Nat.zero_le _, Nat.zero_le _⟩) hW (fun g_150 H locs hp_150 hW => ?_)
                                obtain ⟨hN, hf_150⟩ := hp_150
                                obtain ⟨N_150, hN_150⟩ : ∃ N9 : Nat → Int, N9 = va_up Nw 3 (((w2 / 2 : Nat) : Int)) := ⟨_, rfl⟩
                                rw [← hN_150] at hN
                                have hO : g_150 i = .inr (11, [.ref (A (i + 1)), .ref (A (i + 2)), .ref (A (i + 3)), .ref (A (i + 4)), .int (iI (q 0)), .ref (A (i + 5)), .ref (A (i + 6)), .ref (A (i + 7)), .ref (A (i + 8)), .int (iI (q 1)), .ref (A (i + 9)), .ref (A (i + 10)), .ref (A (i + 11)), .int (iI (q 2)), .ref (A (i + 12)), .ref (A (i + 13)), .int (iI (q 3)), .ref (A (i + 14)), .ref (A (i + 15)), .ref (A (i + 16)), .int (iI (q 4))]) := by rw [hf_150 _ (by omega)]; exact hO
                                have v_3 : N_150 3 = ((w2 / 2 : Nat) : Int) := by rw [hN_150, va_up_self]
                                have v_0 : N_150 0 = ((P : Nat) : Int) := by rw [hN_150, va_up_ne _ _ (by omega)]; exact v_0
                                have v_1 : N_150 1 = (qn : Int) := by rw [hN_150, va_up_ne _ _ (by omega)]; exact v_1
                                have v_2 : N_150 2 = ((u2 : Nat) : Int) := by rw [hN_150, va_up_ne _ _ (by omega)]; exact v_2
                                have hoth : ∀ x, 8 ≤ x → N_150 x = N x := fun x a8 => by rw [hN_150, va_up_ne _ _ (by omega)] <;> exact hoth x a8
                                have hfr : ∀ j, j ≠ i + 1 → g_150 j = g j := fun j hj => (hf_150 j hj).trans (hfr j hj)
                                refine lv_goto (tgt := 137) X.1 X.2.1 dX11_result_153 (by decide) ?_
                                exact ih_137 (w2 / 2) N_150 g_150 _ _ _ (by omega) hN (by omega) (by omega) (by rw [Nat.gcd_comm, gcd_half_left hwe (by rw [Nat.gcd_comm, hg2]; exact hgo), Nat.gcd_comm]; exact hg2) v_0 v_1 v_2 v_3 hoth hfr hW (lv_sub hl [0, 1, 2, 3, 4] rfl)
                          exact loop_137 _ w1 Nw g3 _ _ _ (Nat.lt_succ_self _) hN hw0 (Nat.le_refl _) hg1 v_0 v_1 v_2 v_3 hoth hfr hW (lv_sub hl [0, 1, 2, 3, 4] rfl)
                        · have hue : u2 % 2 = 0 := ifz_even b_123
                          refine lv_aload_n X.1 X.2.1 dX11_result_126 rfl (lv_at hl 0 rfl) ?_
                          refine x_iconst X dX11_result_127 ?_
                          refine x_ldc2 X (2) (by decide) lk_2 dX11_result_128 ?_
                          refine x_cv (x_runV (k := 2) (As := [.int (iI (2)), .long (lI (2))]) (rest := []) X hW (c_X11_over l E A n _ g3 i 2 q Nw (u2) 2 hi hO (by omega) hN v_2 (by decide) (by decide)) (by omega) hO rfl gX11_result_X11_over rfl rfl rfl (by decide +kernel) ⟨by decide, by decide⟩ rfl hl.1 rfl (Nat.le_of_ble_eq_true rfl) dX11_result_131 ⟨Nat.zero_le _, Nat.zero_le _⟩) hW (fun g_131 H locs hp_131 hW => ?_)
                          obtain ⟨hN, hf_131⟩ := hp_131
                          obtain ⟨N_131, hN_131⟩ : ∃ N9 : Nat → Int, N9 = va_up Nw 2 (((u2 / 2 : Nat) : Int)) := ⟨_, rfl⟩
                          rw [← hN_131] at hN
                          have hO : g_131 i = .inr (11, [.ref (A (i + 1)), .ref (A (i + 2)), .ref (A (i + 3)), .ref (A (i + 4)), .int (iI (q 0)), .ref (A (i + 5)), .ref (A (i + 6)), .ref (A (i + 7)), .ref (A (i + 8)), .int (iI (q 1)), .ref (A (i + 9)), .ref (A (i + 10)), .ref (A (i + 11)), .int (iI (q 2)), .ref (A (i + 12)), .ref (A (i + 13)), .int (iI (q 3)), .ref (A (i + 14)), .ref (A (i + 15)), .ref (A (i + 16)), .int (iI (q 4))]) := by rw [hf_131 _ (by omega)]; exact hO
                          have v_2 : N_131 2 = ((u2 / 2 : Nat) : Int) := by rw [hN_131, va_up_self]
                          have v_0 : N_131 0 = ((P : Nat) : Int) := by rw [hN_131, va_up_ne _ _ (by omega)]; exact v_0
                          have v_1 : N_131 1 = (qn : Int) := by rw [hN_131, va_up_ne _ _ (by omega)]; exact v_1
                          have v_3 : N_131 3 = ((w1 : Nat) : Int) := by rw [hN_131, va_up_ne _ _ (by omega)]; exact v_3
                          have hoth : ∀ x, 8 ≤ x → N_131 x = N x := fun x a8 => by rw [hN_131, va_up_ne _ _ (by omega)] <;> exact hoth x a8
                          have hfr : ∀ j, j ≠ i + 1 → g_131 j = g j := fun j hj => (hf_131 j hj).trans (hfr j hj)
                          refine lv_goto (tgt := 118) X.1 X.2.1 dX11_result_134 (by decide) ?_
                          exact ih_118 (u2 / 2) N_131 g_131 _ _ _ (by omega) hN (by omega) (by omega) (by rw [gcd_half_left hue (by rw [hg1]; exact hgo)]; exact hg1) v_0 v_1 v_2 v_3 hoth hfr hW (lv_sub hl [0, 1, 2, 3, 4] rfl)
                    exact loop_118 _ u1 Nw g2 _ _ _ (Nat.lt_succ_self _) hN (by omega) (Nat.le_refl _) hgg v_0 v_1 v_2 v_3 hoth hfr hW (lv_sub hl [0, 1, 2, 3, 4] rfl)
              exact loop_110 _ u w Nw g1 _ _ _ (Nat.lt_succ_self _) hN hw0 (by omega) (by omega) hgg.symm v_0 v_1 v_2 v_3 hoth hfr hW (lv_sub hl [0, 1, 2, 3, 4] rfl)
            · have hue : u % 2 = 0 := ifz_even b_77
              refine lv_aload_n X.1 X.2.1 dX11_result_80 rfl (lv_at hl 0 rfl) ?_
              refine x_iconst X dX11_result_81 ?_
              refine x_ci (x_runV (k := 1) (As := [.int (iI (3))]) (rest := []) X hW (c_X11_isEven l E A n _ g1 i 3 q Nw hi hO (by omega) hN) (by omega) hO rfl gX11_result_X11_isEven rfl rfl rfl (by decide +kernel) ⟨by decide, by decide⟩ rfl hl.1 rfl (Nat.le_of_ble_eq_true rfl) dX11_result_82 ⟨Nat.zero_le _, Nat.zero_le _⟩) hW (fun r_82 g_82 H locs hp_82 hW => ?_)
              obtain ⟨hr_82, he_82⟩ := hp_82
              rw [he_82] at hW
              rw [v_3] at hr_82
              subst hr_82
              refine x_if_eq (tgt := 110) X ⟨by split <;> decide, by split <;> decide⟩ dX11_result_85 (by decide) (fun b_85 => ?_) (fun b_85 => ?_)
              · have hod : u % 2 = 1 ∨ w % 2 = 1 := Or.inr (ifz_odd b_85)
                obtain ⟨gg, hgg⟩ : ∃ gg, gg = Nat.gcd u w := ⟨_, rfl⟩
                have hgo : gg % 2 = 1 := by rw [hgg]; exact gcd_odd hod
                rw [← hgg] at hG
                have loop_110 : ∀ (fuel : Nat) (u1 : Nat) (w1 : Nat) (Nw : Nat → Int) (g2 : Nat → va_E) (H : Heap) (locs : List Loc) (ls : Array Slot), (u1 + w1) < fuel → (MN E A g2 i Nw) → (0 < w1) → (u1 ≤ 10 ^ 60) → (w1 ≤ 10 ^ 60) → (Nat.gcd u1 w1 = gg) → (Nw 0 = ((P : Nat) : Int)) → (Nw 1 = (qn : Int)) → (Nw 2 = ((u1 : Nat) : Int)) → (Nw 3 = ((w1 : Nat) : Int)) → (∀ x, 8 ≤ x → Nw x = N x) → (∀ j, j ≠ i + 1 → g2 j = g j) → wH E (wF A n sz) A n s g2 H locs → lv_has ls 6 [(0, .ref (A (i))), (1, .int (iI ((a : Int)))), (2, .int (iI ((b : Int)))), (3, .int (iI (0))), (4, .int (iI ((tw : Int))))] → W p l e ({ frames := 6, cells := 0, slots := 0, locals := 200 } : Room) s m [.ref (A (i)), .int (iI ((a : Int))), .int (iI ((b : Int)))].toArray below meth c H locs 0 0 (MQ below (va_Qv (fun g' => (∃ N' : Nat → Int, MN E A g' i N' ∧ N' 0 = rdT pz qn ∧ N' 1 = ((rdB pz qn : Nat) : Int) ∧ ∀ x, 8 ≤ x → N' x = N x) ∧ ∀ j, j ≠ i + 1 → g' j = g j) (wAt E A n) (wF A n sz)) [.ref (A (i)), .int (iI ((a : Int))), .int (iI ((b : Int)))].toArray s 0 0 (wF A n sz)) (F0 m 110 ls []) := by
                  intro fuel
                  induction fuel with
                  | zero => intro u1 w1 Nw g2 H locs ls hm; exact absurd hm (Nat.not_lt_zero _)
                  | succ fuel ih_110 =>
                    intro u1 w1 Nw g2 H locs ls hm hN hw0 huP hwq hgg v_0 v_1 v_2 v_3 hoth hfr hW hl
                    have hO : g2 i = .inr (11, [.ref (A (i + 1)), .ref (A (i + 2)), .ref (A (i + 3)), .ref (A (i + 4)), .int (iI (q 0)), .ref (A (i + 5)), .ref (A (i + 6)), .ref (A (i + 7)), .ref (A (i + 8)), .int (iI (q 1)), .ref (A (i + 9)), .ref (A (i + 10)), .ref (A (i + 11)), .int (iI (q 2)), .ref (A (i + 12)), .ref (A (i + 13)), .int (iI (q 3)), .ref (A (i + 14)), .ref (A (i + 15)), .ref (A (i + 16)), .int (iI (q 4))]) := (hfr _ (by omega)).trans hOg
                    refine lv_aload_n X.1 X.2.1 dX11_result_110 rfl (lv_at hl 0 rfl) ?_
                    refine x_iconst X dX11_result_111 ?_
                    refine x_ci (x_runV (k := 1) (As := [.int (iI (2))]) (rest := []) X hW (c_X11_isZero l E A n _ g2 i 2 q Nw hi hO (by omega) hN) (by omega) hO rfl gX11_result_X11_isZero rfl rfl rfl (by decide +kernel) ⟨by decide, by decide⟩ rfl hl.1 rfl (Nat.le_of_ble_eq_true rfl) dX11_result_112 ⟨Nat.zero_le _, Nat.zero_le _⟩) hW (fun r_112 g_112 H locs hp_112 hW => ?_)
                    obtain ⟨hr_112, he_112⟩ := hp_112
                    rw [he_112] at hW
                    rw [v_2] at hr_112
                    subst hr_112
                    refine x_if_ne (tgt := 189) X ⟨by split <;> decide, by split <;> decide⟩ dX11_result_115 (by decide) (fun b_115 => ?_) (fun b_115 => ?_)
                    · have hu0 : u1 = 0 := ifz_z2 b_115
                      have hw1g : w1 = gg := by rw [← hgg, hu0, Nat.gcd_zero_left]
                      refine x_iconst X dX11_result_189 ?_
                      refine x_seti (((0 : Nat) : Int)) rfl ?_
                      refine lv_istore (lv' := [(5, .int (iI (((0 : Nat) : Int)))), (0, .ref (A (i))), (1, .int (iI ((a : Int)))), (2, .int (iI ((b : Int)))), (3, .int (iI (0))), (4, .int (iI ((tw : Int))))]) X.1 X.2.1 dX11_result_190 hl (by decide) rfl (fun ls hl => ?_)
                      have loop_192 : ∀ (fuel : Nat) (kk : Nat) (Nw : Nat → Int) (g5 : Nat → va_E) (H : Heap) (locs : List Loc) (ls : Array Slot), (tw - kk) < fuel → (MN E A g5 i Nw) → (kk ≤ tw) → (Nw 0 = ((P : Nat) : Int)) → (Nw 1 = (qn : Int)) → (Nw 2 = ((u1 : Nat) : Int)) → (Nw 3 = ((gg * 2 ^ kk : Nat) : Int)) → (∀ x, 8 ≤ x → Nw x = N x) → (∀ j, j ≠ i + 1 → g5 j = g j) → wH E (wF A n sz) A n s g5 H locs → lv_has ls 6 [(0, .ref (A (i))), (1, .int (iI ((a : Int)))), (2, .int (iI ((b : Int)))), (3, .int (iI (0))), (4, .int (iI ((tw : Int)))), (5, .int (iI ((kk : Int))))] → W p l e ({ frames := 6, cells := 0, slots := 0, locals := 200 } : Room) s m [.ref (A (i)), .int (iI ((a : Int))), .int (iI ((b : Int)))].toArray below meth c H locs 0 0 (MQ below (va_Qv (fun g' => (∃ N' : Nat → Int, MN E A g' i N' ∧ N' 0 = rdT pz qn ∧ N' 1 = ((rdB pz qn : Nat) : Int) ∧ ∀ x, 8 ≤ x → N' x = N x) ∧ ∀ j, j ≠ i + 1 → g' j = g j) (wAt E A n) (wF A n sz)) [.ref (A (i)), .int (iI ((a : Int))), .int (iI ((b : Int)))].toArray s 0 0 (wF A n sz)) (F0 m 192 ls []) := by
                        intro fuel
                        induction fuel with
                        | zero => intro kk Nw g5 H locs ls hm; exact absurd hm (Nat.not_lt_zero _)
                        | succ fuel ih_192 =>
                          intro kk Nw g5 H locs ls hm hN hkk v_0 v_1 v_2 v_3 hoth hfr hW hl
                          have hO : g5 i = .inr (11, [.ref (A (i + 1)), .ref (A (i + 2)), .ref (A (i + 3)), .ref (A (i + 4)), .int (iI (q 0)), .ref (A (i + 5)), .ref (A (i + 6)), .ref (A (i + 7)), .ref (A (i + 8)), .int (iI (q 1)), .ref (A (i + 9)), .ref (A (i + 10)), .ref (A (i + 11)), .int (iI (q 2)), .ref (A (i + 12)), .ref (A (i + 13)), .int (iI (q 3)), .ref (A (i + 14)), .ref (A (i + 15)), .ref (A (i + 16)), .int (iI (q 4))]) := (hfr _ (by omega)).trans hOg
                          have hkp : gg * 2 ^ kk ≤ GG := by rw [hG, Nat.mul_comm]; exact Nat.mul_le_mul_right _ (Nat.pow_le_pow_right (by decide) hkk)
                          refine lv_iload X.1 X.2.1 dX11_result_192 (lv_at hl 5 rfl) ?_
                          refine lv_iload X.1 X.2.1 dX11_result_194 (lv_at hl 4 rfl) ?_
                          refine x_icmp_ge (tgt := 213) X ⟨by omega, by omega⟩ ⟨by omega, by omega⟩ dX11_result_196 (by decide) (fun b_196 => ?_) (fun b_196 => ?_)
                          · have hkt : gg * 2 ^ kk = GG := by rw [show kk = tw from by omega, hG, Nat.mul_comm]
                            rw [hkt] at v_3
                            refine lv_aload_n X.1 X.2.1 dX11_result_213 rfl (lv_at hl 0 rfl) ?_
                            refine x_iconst X dX11_result_214 ?_
                            refine x_iconst X dX11_result_215 ?_
                            refine x_cv (x_runV (k := 2) (As := [.int (iI (4)), .int (iI (3))]) (rest := []) X hW (c_X11_copy l E A n _ g5 i 4 3 q Nw hi hO (by omega) (by omega) (by omega) hN) (by omega) hO rfl gX11_result_X11_copy rfl rfl rfl (by decide +kernel) ⟨by decide, by decide⟩ rfl hl.1 rfl (Nat.le_of_ble_eq_true rfl) dX11_result_216 ⟨Nat.zero_le _, Nat.zero_le _⟩) hW (fun g_216 H locs hp_216 hW => ?_)
                            obtain ⟨hN, hf_216⟩ := hp_216
                            obtain ⟨N_216, hN_216⟩ : ∃ N9 : Nat → Int, N9 = va_up Nw 4 (Nw 3) := ⟨_, rfl⟩
                            rw [← hN_216] at hN
                            have hO : g_216 i = .inr (11, [.ref (A (i + 1)), .ref (A (i + 2)), .ref (A (i + 3)), .ref (A (i + 4)), .int (iI (q 0)), .ref (A (i + 5)), .ref (A (i + 6)), .ref (A (i + 7)), .ref (A (i + 8)), .int (iI (q 1)), .ref (A (i + 9)), .ref (A (i + 10)), .ref (A (i + 11)), .int (iI (q 2)), .ref (A (i + 12)), .ref (A (i + 13)), .int (iI (q 3)), .ref (A (i + 14)), .ref (A (i + 15)), .ref (A (i + 16)), .int (iI (q 4))]) := by rw [hf_216 _ (by omega)]; exact hO
                            have v_4 : N_216 4 = ((GG : Nat) : Int) := by rw [hN_216, va_up_self, v_3]
                            have v_0 : N_216 0 = ((P : Nat) : Int) := by rw [hN_216, va_up_ne _ _ (by omega)]; exact v_0
                            have v_1 : N_216 1 = (qn : Int) := by rw [hN_216, va_up_ne _ _ (by omega)]; exact v_1
                            have v_2 : N_216 2 = ((u1 : Nat) : Int) := by rw [hN_216, va_up_ne _ _ (by omega)]; exact v_2
                            have v_3 : N_216 3 = ((GG : Nat) : Int) := by rw [hN_216, va_up_ne _ _ (by omega)]; exact v_3
                            have hoth : ∀ x, 8 ≤ x → N_216 x = N x := fun x a8 => by rw [hN_216, va_up_ne _ _ (by omega)] <;> exact hoth x a8
                            have hfr : ∀ j, j ≠ i + 1 → g_216 j = g j := fun j hj => (hf_216 j hj).trans (hfr j hj)
                            refine lv_aload_n X.1 X.2.1 dX11_result_219 rfl (lv_at hl 0 rfl) ?_
                            refine x_iconst X dX11_result_220 ?_
                            refine x_iconst X dX11_result_221 ?_
                            refine x_cv (x_runV (k := 2) (As := [.int (iI (0)), .int (iI (4))]) (rest := []) X hW (c_X11_parted l E A n _ g_216 i 0 4 q N_216 (P) GG hi hO (by omega) (by omega) (by omega) (by omega) (by omega) (by omega) (by omega) (by omega) (by omega) hN v_0 v_4 hGp (by omega) (by omega)) (by omega) hO rfl gX11_result_X11_parted rfl rfl rfl (by decide +kernel) ⟨by decide, by decide⟩ rfl hl.1 rfl (Nat.le_of_ble_eq_true rfl) dX11_result_222 ⟨Nat.zero_le _, Nat.zero_le _⟩) hW (fun g_222 H locs hp_222 hW => ?_)
                            obtain ⟨⟨N_222, hN, w_0, hnx_222⟩, hf_222⟩ := hp_222
                            have hO : g_222 i = .inr (11, [.ref (A (i + 1)), .ref (A (i + 2)), .ref (A (i + 3)), .ref (A (i + 4)), .int (iI (q 0)), .ref (A (i + 5)), .ref (A (i + 6)), .ref (A (i + 7)), .ref (A (i + 8)), .int (iI (q 1)), .ref (A (i + 9)), .ref (A (i + 10)), .ref (A (i + 11)), .int (iI (q 2)), .ref (A (i + 12)), .ref (A (i + 13)), .int (iI (q 3)), .ref (A (i + 14)), .ref (A (i + 15)), .ref (A (i + 16)), .int (iI (q 4))]) := by rw [hf_222 _ (by omega)]; exact hO
                            have v_1 : N_222 1 = (qn : Int) := by rw [hnx_222 _ (by omega) (by omega) (by omega) (by omega)]; exact v_1
                            have v_4 : N_222 4 = ((GG : Nat) : Int) := by rw [hnx_222 _ (by omega) (by omega) (by omega) (by omega)]; exact v_4
                            have v_0 : N_222 0 = ((P / GG : Nat) : Int) := w_0
                            have hoth : ∀ x, 8 ≤ x → N_222 x = N x := fun x a8 => by rw [hnx_222 x (by omega) (by omega) (by omega) (by omega)]; exact hoth x a8
                            have hfr : ∀ j, j ≠ i + 1 → g_222 j = g j := fun j hj => (hf_222 j hj).trans (hfr j hj)
                            refine lv_aload_n X.1 X.2.1 dX11_result_225 rfl (lv_at hl 0 rfl) ?_
                            refine x_iconst X dX11_result_226 ?_
                            refine x_iconst X dX11_result_227 ?_
                            refine x_cv (x_runV (k := 2) (As := [.int (iI (1)), .int (iI (4))]) (rest := []) X hW (c_X11_parted l E A n _ g_222 i 1 4 q N_222 (qn) GG hi hO (by omega) (by omega) (by omega) (by omega) (by omega) (by omega) (by omega) (by omega) (by omega) hN v_1 v_4 hGp (by omega) (by omega)) (by omega) hO rfl gX11_result_X11_parted rfl rfl rfl (by decide +kernel) ⟨by decide, by decide⟩ rfl hl.1 rfl (Nat.le_of_ble_eq_true rfl) dX11_result_228 ⟨Nat.zero_le _, Nat.zero_le _⟩) hW (fun g_228 H locs hp_228 hW => ?_)
                            obtain ⟨⟨N_228, hN, w_1, hnx_228⟩, hf_228⟩ := hp_228
                            have hO : g_228 i = .inr (11, [.ref (A (i + 1)), .ref (A (i + 2)), .ref (A (i + 3)), .ref (A (i + 4)), .int (iI (q 0)), .ref (A (i + 5)), .ref (A (i + 6)), .ref (A (i + 7)), .ref (A (i + 8)), .int (iI (q 1)), .ref (A (i + 9)), .ref (A (i + 10)), .ref (A (i + 11)), .int (iI (q 2)), .ref (A (i + 12)), .ref (A (i + 13)), .int (iI (q 3)), .ref (A (i + 14)), .ref (A (i + 15)), .ref (A (i + 16)), .int (iI (q 4))]) := by rw [hf_228 _ (by omega)]; exact hO
                            have v_4 : N_228 4 = ((GG : Nat) : Int) := by rw [hnx_228 _ (by omega) (by omega) (by omega) (by omega)]; exact v_4
                            have v_0 : N_228 0 = ((P / GG : Nat) : Int) := by rw [hnx_228 _ (by omega) (by omega) (by omega) (by omega)]; exact v_0
                            have v_1 : N_228 1 = ((qn / GG : Nat) : Int) := w_1
                            have hoth : ∀ x, 8 ≤ x → N_228 x = N x := fun x a8 => by rw [hnx_228 x (by omega) (by omega) (by omega) (by omega)]; exact hoth x a8
                            have hfr : ∀ j, j ≠ i + 1 → g_228 j = g j := fun j hj => (hf_228 j hj).trans (hfr j hj)
                            refine lv_iload_n X.1 X.2.1 dX11_result_231 rfl (lv_at hl 3 rfl) ?_
                            refine x_if_eq (tgt := 243) X ⟨by decide, by decide⟩ dX11_result_232 (by decide) (fun b_232 => ?_) (fun b_232 => ?_)
                            · exact x_vret X hr hlk hW (⟨⟨N_228, hN, by rw [v_0]; exact rdT_pos hsg hP hGG, by rw [v_1]; unfold rdB; rw [← hP, ← hGG], hoth⟩, hfr⟩) dX11_result_243
                            · exact absurd (by decide) b_232
                          · have hp2k : ((gg * 2 ^ kk : Nat) : Int) * 2 = ((gg * 2 ^ (kk + 1) : Nat) : Int) := by rw [Nat.pow_succ, ← Nat.mul_assoc]; omega
                            refine lv_aload_n X.1 X.2.1 dX11_result_199 rfl (lv_at hl 0 rfl) ?_
                            refine x_iconst X dX11_result_200 ?_
                            refine x_ldc2 X (2) (by decide) lk_2 dX11_result_201 ?_
                            refine x_cv (x_runV (k := 2) (As := [.int (iI (3)), .long (lI (2))]) (rest := []) X hW (c_X11_times l E A n _ g5 i 3 q Nw 2 hi hO (by omega) hN (by decide) (by decide) (by rw [v_3]; omega) (by rw [v_3]; omega)) (by omega) hO rfl gX11_result_X11_times rfl rfl rfl (by decide +kernel) ⟨by decide, by decide⟩ rfl hl.1 rfl (Nat.le_of_ble_eq_true rfl) dX11_result_204 ⟨Nat.zero_le _, Nat.zero_le _⟩) hW (fun g_204 H locs hp_204 hW => ?_)
                            obtain ⟨hN, hf_204⟩ := hp_204
                            obtain ⟨N_204, hN_204⟩ : ∃ N9 : Nat → Int, N9 = va_up Nw 3 (Nw 3 * 2) := ⟨_, rfl⟩
                            rw [← hN_204] at hN
                            have hO : g_204 i = .inr (11, [.ref (A (i + 1)), .ref (A (i + 2)), .ref (A (i + 3)), .ref (A (i + 4)), .int (iI (q 0)), .ref (A (i + 5)), .ref (A (i + 6)), .ref (A (i + 7)), .ref (A (i + 8)), .int (iI (q 1)), .ref (A (i + 9)), .ref (A (i + 10)), .ref (A (i + 11)), .int (iI (q 2)), .ref (A (i + 12)), .ref (A (i + 13)), .int (iI (q 3)), .ref (A (i + 14)), .ref (A (i + 15)), .ref (A (i + 16)), .int (iI (q 4))]) := by rw [hf_204 _ (by omega)]; exact hO
                            have v_3 : N_204 3 = ((gg * 2 ^ (kk + 1) : Nat) : Int) := by rw [hN_204, va_up_self, v_3, hp2k]
                            have v_0 : N_204 0 = ((P : Nat) : Int) := by rw [hN_204, va_up_ne _ _ (by omega)]; exact v_0
                            have v_1 : N_204 1 = (qn : Int) := by rw [hN_204, va_up_ne _ _ (by omega)]; exact v_1
                            have v_2 : N_204 2 = ((u1 : Nat) : Int) := by rw [hN_204, va_up_ne _ _ (by omega)]; exact v_2
                            have hoth : ∀ x, 8 ≤ x → N_204 x = N x := fun x a8 => by rw [hN_204, va_up_ne _ _ (by omega)] <;> exact hoth x a8
                            have hfr : ∀ j, j ≠ i + 1 → g_204 j = g j := fun j hj => (hf_204 j hj).trans (hfr j hj)
                            refine lv_iinc (v := iI (((kk + 1 : Nat) : Int))) (lv' := [(5, .int (iI (((kk + 1 : Nat) : Int)))), (0, .ref (A (i))), (1, .int (iI ((a : Int)))), (2, .int (iI ((b : Int)))), (3, .int (iI (0))), (4, .int (iI ((tw : Int))))]) X.1 X.2.1 dX11_result_207 hl (k := 5) rfl (by rw [show (Int32.ofInt (1)) = iI (1) from rfl, iI_add]; rfl) (by decide) rfl (fun ls hl => ?_)
                            refine lv_goto (tgt := 192) X.1 X.2.1 dX11_result_210 (by decide) ?_
                            exact ih_192 (kk + 1) N_204 g_204 _ _ _ (by omega) hN (by omega) v_0 v_1 v_2 v_3 hoth hfr hW (lv_sub hl [1, 2, 3, 4, 5, 0] rfl)
                      exact loop_192 _ 0 Nw g2 _ _ _ (Nat.lt_succ_self _) hN (Nat.zero_le _) v_0 v_1 v_2 (by rw [v_3, hw1g, Nat.pow_zero, Nat.mul_one]) hoth hfr hW (lv_sub hl [1, 2, 3, 4, 5, 0] rfl)
                    · have hu0 : 0 < u1 := Nat.pos_of_ne_zero (ifz_nz b_115)
                      have loop_118 : ∀ (fuel : Nat) (u2 : Nat) (Nw : Nat → Int) (g3 : Nat → va_E) (H : Heap) (locs : List Loc) (ls : Array Slot), (u2) < fuel → (MN E A g3 i Nw) → (0 < u2) → (u2 ≤ u1) → (Nat.gcd u2 w1 = gg) → (Nw 0 = ((P : Nat) : Int)) → (Nw 1 = (qn : Int)) → (Nw 2 = ((u2 : Nat) : Int)) → (Nw 3 = ((w1 : Nat) : Int)) → (∀ x, 8 ≤ x → Nw x = N x) → (∀ j, j ≠ i + 1 → g3 j = g j) → wH E (wF A n sz) A n s g3 H locs → lv_has ls 6 [(0, .ref (A (i))), (1, .int (iI ((a : Int)))), (2, .int (iI ((b : Int)))), (3, .int (iI (0))), (4, .int (iI ((tw : Int))))] → W p l e ({ frames := 6, cells := 0, slots := 0, locals := 200 } : Room) s m [.ref (A (i)), .int (iI ((a : Int))), .int (iI ((b : Int)))].toArray below meth c H locs 0 0 (MQ below (va_Qv (fun g' => (∃ N' : Nat → Int, MN E A g' i N' ∧ N' 0 = rdT pz qn ∧ N' 1 = ((rdB pz qn : Nat) : Int) ∧ ∀ x, 8 ≤ x → N' x = N x) ∧ ∀ j, j ≠ i + 1 → g' j = g j) (wAt E A n) (wF A n sz)) [.ref (A (i)), .int (iI ((a : Int))), .int (iI ((b : Int)))].toArray s 0 0 (wF A n sz)) (F0 m 118 ls []) := by
                        intro fuel
                        induction fuel with
                        | zero => intro u2 Nw g3 H locs ls hm; exact absurd hm (Nat.not_lt_zero _)
                        | succ fuel ih_118 =>
                          intro u2 Nw g3 H locs ls hm hN hu2 hu3 hg1 v_0 v_1 v_2 v_3 hoth hfr hW hl
                          have hO : g3 i = .inr (11, [.ref (A (i + 1)), .ref (A (i + 2)), .ref (A (i + 3)), .ref (A (i + 4)), .int (iI (q 0)), .ref (A (i + 5)), .ref (A (i + 6)), .ref (A (i + 7)), .ref (A (i + 8)), .int (iI (q 1)), .ref (A (i + 9)), .ref (A (i + 10)), .ref (A (i + 11)), .int (iI (q 2)), .ref (A (i + 12)), .ref (A (i + 13)), .int (iI (q 3)), .ref (A (i + 14)), .ref (A (i + 15)), .ref (A (i + 16)), .int (iI (q 4))]) := (hfr _ (by omega)).trans hOg
                          refine lv_aload_n X.1 X.2.1 dX11_result_118 rfl (lv_at hl 0 rfl) ?_
                          refine x_iconst X dX11_result_119 ?_
                          refine x_ci (x_runV (k := 1) (As := [.int (iI (2))]) (rest := []) X hW (c_X11_isEven l E A n _ g3 i 2 q Nw hi hO (by omega) hN) (by omega) hO rfl gX11_result_X11_isEven rfl rfl rfl (by decide +kernel) ⟨by decide, by decide⟩ rfl hl.1 rfl (Nat.le_of_ble_eq_true rfl) dX11_result_120 ⟨Nat.zero_le _, Nat.zero_le _⟩) hW (fun r_120 g_120 H locs hp_120 hW => ?_)
                          obtain ⟨hr_120, he_120⟩ := hp_120
                          rw [he_120] at hW
                          rw [v_2] at hr_120
                          subst hr_120
                          refine x_if_eq (tgt := 137) X ⟨by split <;> decide, by split <;> decide⟩ dX11_result_123 (by decide) (fun b_123 => ?_) (fun b_123 => ?_)
                          · have huo : u2 % 2 = 1 := ifz_odd b_123
                            have loop_137 : ∀ (fuel : Nat) (w2 : Nat) (Nw : Nat → Int) (g4 : Nat → va_E) (H : Heap) (locs : List Loc) (ls : Array Slot), (w2) < fuel → (MN E A g4 i Nw) → (0 < w2) → (w2 ≤ w1) → (Nat.gcd u2 w2 = gg) → (Nw 0 = ((P : Nat) : Int)) → (Nw 1 = (qn : Int)) → (Nw 2 = ((u2 : Nat) : Int)) → (Nw 3 = ((w2 : Nat) : Int)) → (∀ x, 8 ≤ x → Nw x = N x) → (∀ j, j ≠ i + 1 → g4 j = g j) → wH E (wF A n sz) A n s g4 H locs → lv_has ls 6 [(0, .ref (A (i))), (1, .int (iI ((a : Int)))), (2, .int (iI ((b : Int)))), (3, .int (iI (0))), (4, .int (iI ((tw : Int))))] → W p l e ({ frames := 6, cells := 0, slots := 0, locals := 200 } : Room) s m [.ref (A (i)), .int (iI ((a : Int))), .int (iI ((b : Int)))].toArray below meth c H locs 0 0 (MQ below (va_Qv (fun g' => (∃ N' : Nat → Int, MN E A g' i N' ∧ N' 0 = rdT pz qn ∧ N' 1 = ((rdB pz qn : Nat) : Int) ∧ ∀ x, 8 ≤ x → N' x = N x) ∧ ∀ j, j ≠ i + 1 → g' j = g j) (wAt E A n) (wF A n sz)) [.ref (A (i)), .int (iI ((a : Int))), .int (iI ((b : Int)))].toArray s 0 0 (wF A n sz)) (F0 m 137 ls []) := by
                              intro fuel
                              induction fuel with
                              | zero => intro w2 Nw g4 H locs ls hm; exact absurd hm (Nat.not_lt_zero _)
                              | succ fuel ih_137 =>
                                intro w2 Nw g4 H locs ls hm hN hw2 hw3 hg2 v_0 v_1 v_2 v_3 hoth hfr hW hl
                                have hO : g4 i = .inr (11, [.ref (A (i + 1)), .ref (A (i + 2)), .ref (A (i + 3)), .ref (A (i + 4)), .int (iI (q 0)), .ref (A (i + 5)), .ref (A (i + 6)), .ref (A (i + 7)), .ref (A (i + 8)), .int (iI (q 1)), .ref (A (i + 9)), .ref (A (i + 10)), .ref (A (i + 11)), .int (iI (q 2)), .ref (A (i + 12)), .ref (A (i + 13)), .int (iI (q 3)), .ref (A (i + 14)), .ref (A (i + 15)), .ref (A (i + 16)), .int (iI (q 4))]) := (hfr _ (by omega)).trans hOg
                                refine lv_aload_n X.1 X.2.1 dX11_result_137 rfl (lv_at hl 0 rfl) ?_
                                refine x_iconst X dX11_result_138 ?_
                                refine x_ci (x_runV (k := 1) (As := [.int (iI (3))]) (rest := []) X hW (c_X11_isEven l E A n _ g4 i 3 q Nw hi hO (by omega) hN) (by omega) hO rfl gX11_result_X11_isEven rfl rfl rfl (by decide +kernel) ⟨by decide, by decide⟩ rfl hl.1 rfl (Nat.le_of_ble_eq_true rfl) dX11_result_139 ⟨Nat.zero_le _, Nat.zero_le _⟩) hW (fun r_139 g_139 H locs hp_139 hW => ?_)
                                obtain ⟨hr_139, he_139⟩ := hp_139
                                rw [he_139] at hW
                                rw [v_3] at hr_139
                                subst hr_139
                                refine x_if_eq (tgt := 156) X ⟨by split <;> decide, by split <;> decide⟩ dX11_result_142 (by decide) (fun b_142 => ?_) (fun b_142 => ?_)
                                · have hwo : w2 % 2 = 1 := ifz_odd b_142
                                  refine lv_aload_n X.1 X.2.1 dX11_result_156 rfl (lv_at hl 0 rfl) ?_
                                  refine x_iconst X dX11_result_157 ?_
                                  refine x_iconst X dX11_result_158 ?_
                                  refine x_ci (x_runV (k := 2) (As := [.int (iI (2)), .int (iI (3))]) (rest := []) X hW (c_X11_compared l E A n _ g4 i 2 3 q Nw hi hO (by omega) (by omega) hN) (by omega) hO rfl gX11_result_X11_compared rfl rfl rfl (by decide +kernel) ⟨by decide, by decide⟩ rfl hl.1 rfl (Nat.le_of_ble_eq_true rfl) dX11_result_159 ⟨Nat.zero_le _, Nat.zero_le _⟩) hW (fun r_159 g_159 H locs hp_159 hW => ?_)
                                  obtain ⟨hr_159, he_159⟩ := hp_159
                                  rw [he_159] at hW
                                  rw [v_2, v_3] at hr_159
                                  subst hr_159
                                  refine x_if_lt (tgt := 177) X ⟨by repeat (first | decide | split), by repeat (first | decide | split)⟩ dX11_result_162 (by decide) (fun b_162 => ?_) (fun b_162 => ?_)
                                  · have hlt2 : u2 < w2 := cmp_lt b_162
                                    have hm2 : ((w2 : Nat) : Int) + ((u2 : Nat) : Int) * -1 = ((w2 - u2 : Nat) : Int) := by omega
                                    refine lv_aload_n X.1 X.2.1 dX11_result_177 rfl (lv_at hl 0 rfl) ?_
                                    refine x_iconst X dX11_result_178 ?_
                                    refine x_iconst X dX11_result_179 ?_
                                    refine x_ldc2 X (-1) (by decide) lk_3 dX11_result_180 ?_
                                    refine x_cv (x_runV (k := 3) (As := [.int (iI (3)), .int (iI (2)), .long (lI ((-1)))]) (rest := []) X hW (c_X11_more l E A n _ g4 i 3 2 q Nw (-1) hi hO (by omega) (by omega) (by omega) hN (by decide) (by decide) (by rw [v_2, v_3]; omega) (by rw [v_2, v_3]; omega)) (by omega) hO rfl gX11_result_X11_more rfl rfl rfl (by decide +kernel) ⟨by decide, by decide⟩ rfl hl.1 rfl (Nat.le_of_ble_eq_true rfl) dX11_result_183 ⟨Nat.zero_le _, Nat.zero_le _⟩) hW (fun g_183 H locs hp_183 hW => ?_)
                                    obtain ⟨hN, hf_183⟩ := hp_183
                                    obtain ⟨N_183, hN_183⟩ : ∃ N9 : Nat → Int, N9 = va_up Nw 3 (Nw 3 + Nw 2 * -1) := ⟨_, rfl⟩
                                    rw [← hN_183] at hN
                                    have hO : g_183 i = .inr (11, [.ref (A (i + 1)), .ref (A (i + 2)), .ref (A (i + 3)), .ref (A (i + 4)), .int (iI (q 0)), .ref (A (i + 5)), .ref (A (i + 6)), .ref (A (i + 7)), .ref (A (i + 8)), .int (iI (q 1)), .ref (A (i + 9)), .ref (A (i + 10)), .ref (A (i + 11)), .int (iI (q 2)), .ref (A (i + 12)), .ref (A (i + 13)), .int (iI (q 3)), .ref (A (i + 14)), .ref (A (i + 15)), .ref (A (i + 16)), .int (iI (q 4))]) := by rw [hf_183 _ (by omega)]; exact hO
                                    have v_3 : N_183 3 = ((w2 - u2 : Nat) : Int) := by rw [hN_183, va_up_self, v_3, v_2, hm2]
                                    have v_0 : N_183 0 = ((P : Nat) : Int) := by rw [hN_183, va_up_ne _ _ (by omega)]; exact v_0
                                    have v_1 : N_183 1 = (qn : Int) := by rw [hN_183, va_up_ne _ _ (by omega)]; exact v_1
                                    have v_2 : N_183 2 = ((u2 : Nat) : Int) := by rw [hN_183, va_up_ne _ _ (by omega)]; exact v_2
                                    have hoth : ∀ x, 8 ≤ x → N_183 x = N x := fun x a8 => by rw [hN_183, va_up_ne _ _ (by omega)] <;> exact hoth x a8
                                    have hfr : ∀ j, j ≠ i + 1 → g_183 j = g j := fun j hj => (hf_183 j hj).trans (hfr j hj)
                                    refine lv_goto (tgt := 110) X.1 X.2.1 dX11_result_186 (by decide) ?_
                                    exact ih_110 u2 (w2 - u2) N_183 g_183 _ _ _ (by omega) hN (by omega) (by omega) (by omega) (by rw [Nat.gcd_comm, gcd_take (by omega), Nat.gcd_comm]; exact hg2) v_0 v_1 v_2 v_3 hoth hfr hW (lv_sub hl [0, 1, 2, 3, 4] rfl)
                                  · have hlt2 : w2 ≤ u2 := cmp_ge b_162
                                    have hm1 : ((u2 : Nat) : Int) + ((w2 : Nat) : Int) * -1 = ((u2 - w2 : Nat) : Int) := by omega
                                    refine lv_aload_n X.1 X.2.1 dX11_result_165 rfl (lv_at hl 0 rfl) ?_
                                    refine x_iconst X dX11_result_166 ?_
                                    refine x_iconst X dX11_result_167 ?_
                                    refine x_ldc2 X (-1) (by decide) lk_3 dX11_result_168 ?_
                                    refine x_cv (x_runV (k := 3) (As := [.int (iI (2)), .int (iI (3)), .long (lI ((-1)))]) (rest := []) X hW (c_X11_more l E A n _ g4 i 2 3 q Nw (-1) hi hO (by omega) (by omega) (by omega) hN (by decide) (by decide) (by rw [v_2, v_3]; omega) (by rw [v_2, v_3]; omega)) (by omega) hO rfl gX11_result_X11_more rfl rfl rfl (by decide +kernel) ⟨by decide, by decide⟩ rfl hl.1 rfl (Nat.le_of_ble_eq_true rfl) dX11_result_171 ⟨Nat.zero_le _, Nat.zero_le _⟩) hW (fun g_171 H locs hp_171 hW => ?_)
                                    obtain ⟨hN, hf_171⟩ := hp_171
                                    obtain ⟨N_171, hN_171⟩ : ∃ N9 : Nat → Int, N9 = va_up Nw 2 (Nw 2 + Nw 3 * -1) := ⟨_, rfl⟩
                                    rw [← hN_171] at hN
                                    have hO : g_171 i = .inr (11, [.ref (A (i + 1)), .ref (A (i + 2)), .ref (A (i + 3)), .ref (A (i + 4)), .int (iI (q 0)), .ref (A (i + 5)), .ref (A (i + 6)), .ref (A (i + 7)), .ref (A (i + 8)), .int (iI (q 1)), .ref (A (i + 9)), .ref (A (i + 10)), .ref (A (i + 11)), .int (iI (q 2)), .ref (A (i + 12)), .ref (A (i + 13)), .int (iI (q 3)), .ref (A (i + 14)), .ref (A (i + 15)), .ref (A (i + 16)), .int (iI (q 4))]) := by rw [hf_171 _ (by omega)]; exact hO
                                    have v_2 : N_171 2 = ((u2 - w2 : Nat) : Int) := by rw [hN_171, va_up_self, v_2, v_3, hm1]
                                    have v_0 : N_171 0 = ((P : Nat) : Int) := by rw [hN_171, va_up_ne _ _ (by omega)]; exact v_0
                                    have v_1 : N_171 1 = (qn : Int) := by rw [hN_171, va_up_ne _ _ (by omega)]; exact v_1
                                    have v_3 : N_171 3 = ((w2 : Nat) : Int) := by rw [hN_171, va_up_ne _ _ (by omega)]; exact v_3
                                    have hoth : ∀ x, 8 ≤ x → N_171 x = N x := fun x a8 => by rw [hN_171, va_up_ne _ _ (by omega)] <;> exact hoth x a8
                                    have hfr : ∀ j, j ≠ i + 1 → g_171 j = g j := fun j hj => (hf_171 j hj).trans (hfr j hj)
                                    refine lv_goto (tgt := 110) X.1 X.2.1 dX11_result_174 (by decide) ?_
                                    exact ih_110 (u2 - w2) w2 N_171 g_171 _ _ _ (by omega) hN hw2 (by omega) (by omega) (by rw [gcd_take (by omega)]; exact hg2) v_0 v_1 v_2 v_3 hoth hfr hW (lv_sub hl [0, 1, 2, 3, 4] rfl)
                                · have hwe : w2 % 2 = 0 := ifz_even b_142
                                  refine lv_aload_n X.1 X.2.1 dX11_result_145 rfl (lv_at hl 0 rfl) ?_
                                  refine x_iconst X dX11_result_146 ?_
                                  refine x_ldc2 X (2) (by decide) lk_2 dX11_result_147 ?_
                                  refine x_cv (x_runV (k := 2) (As := [.int (iI (3)), .long (lI (2))]) (rest := []) X hW (c_X11_over l E A n _ g4 i 3 q Nw (w2) 2 hi hO (by omega) hN v_3 (by decide) (by decide)) (by omega) hO rfl gX11_result_X11_over rfl rfl rfl (by decide +kernel) ⟨by decide, by decide⟩ rfl hl.1 rfl (Nat.le_of_ble_eq_true rfl) dX11_result_150 ⟨Nat.zero_le _, Nat.zero_le _⟩) hW (fun g_150 H locs hp_150 hW => ?_)
                                  obtain ⟨hN, hf_150⟩ := hp_150
                                  obtain ⟨N_150, hN_150⟩ : ∃ N9 : Nat → Int, N9 = va_up Nw 3 (((w2 / 2 : Nat) : Int)) := ⟨_, rfl⟩
                                  rw [← hN_150] at hN
                                  have hO : g_150 i = .inr (11, [.ref (A (i + 1)), .ref (A (i + 2)), .ref (A (i + 3)), .ref (A (i + 4)), .int (iI (q 0)), .ref (A (i + 5)), .ref (A (i + 6)), .ref (A (i + 7)), .ref (A (i + 8)), .int (iI (q 1)), .ref (A (i + 9)), .ref (A (i + 10)), .ref (A (i + 11)), .int (iI (q 2)), .ref (A (i + 12)), .ref (A (i + 13)), .int (iI (q 3)), .ref (A (i + 14)), .ref (A (i + 15)), .ref (A (i + 16)), .int (iI (q 4))]) := by rw [hf_150 _ (by omega)]; exact hO
                                  have v_3 : N_150 3 = ((w2 / 2 : Nat) : Int) := by rw [hN_150, va_up_self]
                                  have v_0 : N_150 0 = ((P : Nat) : Int) := by rw [hN_150, va_up_ne _ _ (by omega)]; exact v_0
                                  have v_1 : N_150 1 = (qn : Int) := by rw [hN_150, va_up_ne _ _ (by omega)]; exact v_1
                                  have v_2 : N_150 2 = ((u2 : Nat) : Int) := by rw [hN_150, va_up_ne _ _ (by omega)]; exact v_2
                                  have hoth : ∀ x, 8 ≤ x → N_150 x = N x := fun x a8 => by rw [hN_150, va_up_ne _ _ (by omega)] <;> exact hoth x a8
                                  have hfr : ∀ j, j ≠ i + 1 → g_150 j = g j := fun j hj => (hf_150 j hj).trans (hfr j hj)
                                  refine lv_goto (tgt := 137) X.1 X.2.1 dX11_result_153 (by decide) ?_
                                  exact ih_137 (w2 / 2) N_150 g_150 _ _ _ (by omega) hN (by omega) (by omega) (by rw [Nat.gcd_comm, gcd_half_left hwe (by rw [Nat.gcd_comm, hg2]; exact hgo), Nat.gcd_comm]; exact hg2) v_0 v_1 v_2 v_3 hoth hfr hW (lv_sub hl [0, 1, 2, 3, 4] rfl)
                            exact loop_137 _ w1 Nw g3 _ _ _ (Nat.lt_succ_self _) hN hw0 (Nat.le_refl _) hg1 v_0 v_1 v_2 v_3 hoth hfr hW (lv_sub hl [0, 1, 2, 3, 4] rfl)
                          · have hue : u2 % 2 = 0 := ifz_even b_123
                            refine lv_aload_n X.1 X.2.1 dX11_result_126 rfl (lv_at hl 0 rfl) ?_
                            refine x_iconst X dX11_result_127 ?_
                            refine x_ldc2 X (2) (by decide) lk_2 dX11_result_128 ?_
                            refine x_cv (x_runV (k := 2) (As := [.int (iI (2)), .long (lI (2))]) (rest := []) X hW (c_X11_over l E A n _ g3 i 2 q Nw (u2) 2 hi hO (by omega) hN v_2 (by decide) (by decide)) (by omega) hO rfl gX11_result_X11_over rfl rfl rfl (by decide +kernel) ⟨by decide, by decide⟩ rfl hl.1 rfl (Nat.le_of_ble_eq_true rfl) dX11_result_131 ⟨Nat.zero_le _, Nat.zero_le _⟩) hW (fun g_131 H locs hp_131 hW => ?_)
                            obtain ⟨hN, hf_131⟩ := hp_131
                            obtain ⟨N_131, hN_131⟩ : ∃ N9 : Nat → Int, N9 = va_up Nw 2 (((u2 / 2 : Nat) : Int)) := ⟨_, rfl⟩
                            rw [← hN_131] at hN
                            have hO : g_131 i = .inr (11, [.ref (A (i + 1)), .ref (A (i + 2)), .ref (A (i + 3)), .ref (A (i + 4)), .int (iI (q 0)), .ref (A (i + 5)), .ref (A (i + 6)), .ref (A (i + 7)), .ref (A (i + 8)), .int (iI (q 1)), .ref (A (i + 9)), .ref (A (i + 10)), .ref (A (i + 11)), .int (iI (q 2)), .ref (A (i + 12)), .ref (A (i + 13)), .int (iI (q 3)), .ref (A (i + 14)), .ref (A (i + 15)), .ref (A (i + 16)), .int (iI (q 4))]) := by rw [hf_131 _ (by omega)]; exact hO
                            have v_2 : N_131 2 = ((u2 / 2 : Nat) : Int) := by rw [hN_131, va_up_self]
                            have v_0 : N_131 0 = ((P : Nat) : Int) := by rw [hN_131, va_up_ne _ _ (by omega)]; exact v_0
                            have v_1 : N_131 1 = (qn : Int) := by rw [hN_131, va_up_ne _ _ (by omega)]; exact v_1
                            have v_3 : N_131 3 = ((w1 : Nat) : Int) := by rw [hN_131, va_up_ne _ _ (by omega)]; exact v_3
                            have hoth : ∀ x, 8 ≤ x → N_131 x = N x := fun x a8 => by rw [hN_131, va_up_ne _ _ (by omega)] <;> exact hoth x a8
                            have hfr : ∀ j, j ≠ i + 1 → g_131 j = g j := fun j hj => (hf_131 j hj).trans (hfr j hj)
                            refine lv_goto (tgt := 118) X.1 X.2.1 dX11_result_134 (by decide) ?_
                            exact ih_118 (u2 / 2) N_131 g_131 _ _ _ (by omega) hN (by omega) (by omega) (by rw [gcd_half_left hue (by rw [hg1]; exact hgo)]; exact hg1) v_0 v_1 v_2 v_3 hoth hfr hW (lv_sub hl [0, 1, 2, 3, 4] rfl)
                      exact loop_118 _ u1 Nw g2 _ _ _ (Nat.lt_succ_self _) hN (by omega) (Nat.le_refl _) hgg v_0 v_1 v_2 v_3 hoth hfr hW (lv_sub hl [0, 1, 2, 3, 4] rfl)
                exact loop_110 _ u w Nw g1 _ _ _ (Nat.lt_succ_self _) hN hw0 (by omega) (by omega) hgg.symm v_0 v_1 v_2 v_3 hoth hfr hW (lv_sub hl [0, 1, 2, 3, 4] rfl)
              · have hwe : w % 2 = 0 := ifz_even b_85
                refine lv_aload_n X.1 X.2.1 dX11_result_88 rfl (lv_at hl 0 rfl) ?_
                refine x_iconst X dX11_result_89 ?_
                refine x_ldc2 X (2) (by decide) lk_2 dX11_result_90 ?_
                refine x_cv (x_runV (k := 2) (As := [.int (iI (2)), .long (lI (2))]) (rest := []) X hW (c_X11_over l E A n _ g1 i 2 q Nw (u) 2 hi hO (by omega) hN v_2 (by decide) (by decide)) (by omega) hO rfl gX11_result_X11_over rfl rfl rfl (by decide +kernel) ⟨by decide, by decide⟩ rfl hl.1 rfl (Nat.le_of_ble_eq_true rfl) dX11_result_93 ⟨Nat.zero_le _, Nat.zero_le _⟩) hW (fun g_93 H locs hp_93 hW => ?_)
                obtain ⟨hN, hf_93⟩ := hp_93
                obtain ⟨N_93, hN_93⟩ : ∃ N9 : Nat → Int, N9 = va_up Nw 2 (((u / 2 : Nat) : Int)) := ⟨_, rfl⟩
                rw [← hN_93] at hN
                have hO : g_93 i = .inr (11, [.ref (A (i + 1)), .ref (A (i + 2)), .ref (A (i + 3)), .ref (A (i + 4)), .int (iI (q 0)), .ref (A (i + 5)), .ref (A (i + 6)), .ref (A (i + 7)), .ref (A (i + 8)), .int (iI (q 1)), .ref (A (i + 9)), .ref (A (i + 10)), .ref (A (i + 11)), .int (iI (q 2)), .ref (A (i + 12)), .ref (A (i + 13)), .int (iI (q 3)), .ref (A (i + 14)), .ref (A (i + 15)), .ref (A (i + 16)), .int (iI (q 4))]) := by rw [hf_93 _ (by omega)]; exact hO
                have v_2 : N_93 2 = ((u / 2 : Nat) : Int) := by rw [hN_93, va_up_self]
                have v_0 : N_93 0 = ((P : Nat) : Int) := by rw [hN_93, va_up_ne _ _ (by omega)]; exact v_0
                have v_1 : N_93 1 = (qn : Int) := by rw [hN_93, va_up_ne _ _ (by omega)]; exact v_1
                have v_3 : N_93 3 = ((w : Nat) : Int) := by rw [hN_93, va_up_ne _ _ (by omega)]; exact v_3
                have hoth : ∀ x, 8 ≤ x → N_93 x = N x := fun x a8 => by rw [hN_93, va_up_ne _ _ (by omega)] <;> exact hoth x a8
                have hfr : ∀ j, j ≠ i + 1 → g_93 j = g j := fun j hj => (hf_93 j hj).trans (hfr j hj)
                refine lv_aload_n X.1 X.2.1 dX11_result_96 rfl (lv_at hl 0 rfl) ?_
                refine x_iconst X dX11_result_97 ?_
                refine x_ldc2 X (2) (by decide) lk_2 dX11_result_98 ?_
                refine x_cv (x_runV (k := 2) (As := [.int (iI (3)), .long (lI (2))]) (rest := []) X hW (c_X11_over l E A n _ g_93 i 3 q N_93 (w) 2 hi hO (by omega) hN v_3 (by decide) (by decide)) (by omega) hO rfl gX11_result_X11_over rfl rfl rfl (by decide +kernel) ⟨by decide, by decide⟩ rfl hl.1 rfl (Nat.le_of_ble_eq_true rfl) dX11_result_101 ⟨Nat.zero_le _, Nat.zero_le _⟩) hW (fun g_101 H locs hp_101 hW => ?_)
                obtain ⟨hN, hf_101⟩ := hp_101
                obtain ⟨N_101, hN_101⟩ : ∃ N9 : Nat → Int, N9 = va_up N_93 3 (((w / 2 : Nat) : Int)) := ⟨_, rfl⟩
                rw [← hN_101] at hN
                have hO : g_101 i = .inr (11, [.ref (A (i + 1)), .ref (A (i + 2)), .ref (A (i + 3)), .ref (A (i + 4)), .int (iI (q 0)), .ref (A (i + 5)), .ref (A (i + 6)), .ref (A (i + 7)), .ref (A (i + 8)), .int (iI (q 1)), .ref (A (i + 9)), .ref (A (i + 10)), .ref (A (i + 11)), .int (iI (q 2)), .ref (A (i + 12)), .ref (A (i + 13)), .int (iI (q 3)), .ref (A (i + 14)), .ref (A (i + 15)), .ref (A (i + 16)), .int (iI (q 4))]) := by rw [hf_101 _ (by omega)]; exact hO
                have v_3 : N_101 3 = ((w / 2 : Nat) : Int) := by rw [hN_101, va_up_self]
                have v_0 : N_101 0 = ((P : Nat) : Int) := by rw [hN_101, va_up_ne _ _ (by omega)]; exact v_0
                have v_1 : N_101 1 = (qn : Int) := by rw [hN_101, va_up_ne _ _ (by omega)]; exact v_1
                have v_2 : N_101 2 = ((u / 2 : Nat) : Int) := by rw [hN_101, va_up_ne _ _ (by omega)]; exact v_2
                have hoth : ∀ x, 8 ≤ x → N_101 x = N x := fun x a8 => by rw [hN_101, va_up_ne _ _ (by omega)] <;> exact hoth x a8
                have hfr : ∀ j, j ≠ i + 1 → g_101 j = g j := fun j hj => (hf_101 j hj).trans (hfr j hj)
                refine lv_iinc (v := iI (((tw + 1 : Nat) : Int))) (lv' := [(4, .int (iI (((tw + 1 : Nat) : Int)))), (0, .ref (A (i))), (1, .int (iI ((a : Int)))), (2, .int (iI ((b : Int)))), (3, .int (iI (0)))]) X.1 X.2.1 dX11_result_104 hl (k := 4) rfl (by rw [show (Int32.ofInt (1)) = iI (1) from rfl, iI_add]; rfl) (by decide) rfl (fun ls hl => ?_)
                refine lv_goto (tgt := 72) X.1 X.2.1 dX11_result_107 (by decide) ?_
                exact ih_72 (u / 2) (w / 2) (tw + 1) N_101 g_101 _ _ _ (by omega) hN (by omega) (by omega) (by omega) (by omega) (by rw [hG, gcd_both_half hue hwe, Nat.pow_succ, Nat.mul_assoc]) v_0 v_1 v_2 v_3 hoth hfr hW (lv_sub hl [1, 2, 3, 4, 0] rfl)
        exact loop_72 _ P qn 0 N_66 g_66 _ _ _ (Nat.lt_succ_self _) hN (by omega) hq0 (Nat.le_refl _) (Nat.le_refl _) (by rw [hGG, Nat.pow_zero, Nat.one_mul]) v_0 v_1 v_2 v_3 hoth hfr hW (lv_sub hl [2, 3, 4, 1, 0] rfl)
      · have hP0 : P = 0 := ifz_z2 b_47
        refine lv_aload_n X.1 X.2.1 dX11_result_50 rfl (lv_at hl 1 rfl) ?_
        refine x_iconst X dX11_result_51 ?_
        refine x_lconst X 1 (by decide) dX11_result_52 ?_
        refine x_cv (x_runV (k := 2) (As := [.int (iI (1)), .long (lI (1))]) (rest := []) X hW (c_X11_set l E A n _ g_9 i 1 q N_9 1 hi hO (by omega) hN (by decide) (by decide)) (by omega) hO rfl gX11_result_X11_set rfl rfl rfl (by decide +kernel) ⟨by decide, by decide⟩ rfl hl.1 rfl (Nat.le_of_ble_eq_true rfl) dX11_result_53 ⟨Nat.zero_le _, Nat.zero_le _⟩) hW (fun g_53 H locs hp_53 hW => ?_)
        obtain ⟨hN, hf_53⟩ := hp_53
        obtain ⟨N_53, hN_53⟩ : ∃ N9 : Nat → Int, N9 = va_up N_9 1 (1) := ⟨_, rfl⟩
        rw [← hN_53] at hN
        have hO : g_53 i = .inr (11, [.ref (A (i + 1)), .ref (A (i + 2)), .ref (A (i + 3)), .ref (A (i + 4)), .int (iI (q 0)), .ref (A (i + 5)), .ref (A (i + 6)), .ref (A (i + 7)), .ref (A (i + 8)), .int (iI (q 1)), .ref (A (i + 9)), .ref (A (i + 10)), .ref (A (i + 11)), .int (iI (q 2)), .ref (A (i + 12)), .ref (A (i + 13)), .int (iI (q 3)), .ref (A (i + 14)), .ref (A (i + 15)), .ref (A (i + 16)), .int (iI (q 4))]) := by rw [hf_53 _ (by omega)]; exact hO
        have v_1 : N_53 1 = 1 := by rw [hN_53, va_up_self]
        have v_0 : N_53 0 = ((P : Nat) : Int) := by rw [hN_53, va_up_ne _ _ (by omega)]; exact v_0
        have hoth : ∀ x, 8 ≤ x → N_53 x = N x := fun x a8 => by rw [hN_53, va_up_ne _ _ (by omega)] <;> exact hoth x a8
        have hfr : ∀ j, j ≠ i + 1 → g_53 j = g j := fun j hj => (hf_53 j hj).trans (hfr j hj)
        exact x_vret X hr hlk hW (⟨⟨N_53, hN, by rw [v_0, hP0]; unfold rdT; rw [show pz = 0 from by omega, Int.sign_zero, Int.zero_mul]; rfl, by rw [v_1]; unfold rdB; rw [← hP, hP0, Nat.gcd_zero_left, Nat.div_self hq0]; rfl, hoth⟩, hfr⟩) dX11_result_56
    · exact absurd (by decide) b_31
  · have hsg : pz < 0 := hlt0.1.mp (by omega)
    have hN : MN E A g_9 i N_9 := ⟨nf, h1, hNv⟩
    refine x_iconst X dX11_result_24 ?_
    refine lv_goto (tgt := 29) X.1 X.2.1 dX11_result_25 (by decide) ?_
    refine lv_istore_n (lv' := [(3, .int (iI (1))), (0, .ref (A (i))), (1, .int (iI ((a : Int)))), (2, .int (iI ((b : Int))))]) X.1 X.2.1 dX11_result_29 rfl hl (by decide) rfl (fun ls hl => ?_)
    refine lv_iload_n X.1 X.2.1 dX11_result_30 rfl (lv_at hl 0 rfl) ?_
    refine x_if_eq (tgt := 42) X ⟨by decide, by decide⟩ dX11_result_31 (by decide) (fun b_31 => ?_) (fun b_31 => ?_)
    · exact absurd b_31 (by decide)
    · refine lv_aload_n X.1 X.2.1 dX11_result_34 rfl (lv_at hl 1 rfl) ?_
      refine x_iconst X dX11_result_35 ?_
      refine x_ldc2 X (-1) (by decide) lk_3 dX11_result_36 ?_
      refine x_cv (x_runV (k := 2) (As := [.int (iI (0)), .long (lI ((-1)))]) (rest := []) X hW (c_X11_times l E A n _ g_9 i 0 q N_9 (-1) hi hO (by omega) hN (by decide) (by decide) (by rw [v_0]; omega) (by rw [v_0]; omega)) (by omega) hO rfl gX11_result_X11_times rfl rfl rfl (by decide +kernel) ⟨by decide, by decide⟩ rfl hl.1 rfl (Nat.le_of_ble_eq_true rfl) dX11_result_39 ⟨Nat.zero_le _, Nat.zero_le _⟩) hW (fun g_39 H locs hp_39 hW => ?_)
      obtain ⟨hN, hf_39⟩ := hp_39
      obtain ⟨N_39, hN_39⟩ : ∃ N9 : Nat → Int, N9 = va_up N_9 0 (N_9 0 * -1) := ⟨_, rfl⟩
      rw [← hN_39] at hN
      have hO : g_39 i = .inr (11, [.ref (A (i + 1)), .ref (A (i + 2)), .ref (A (i + 3)), .ref (A (i + 4)), .int (iI (q 0)), .ref (A (i + 5)), .ref (A (i + 6)), .ref (A (i + 7)), .ref (A (i + 8)), .int (iI (q 1)), .ref (A (i + 9)), .ref (A (i + 10)), .ref (A (i + 11)), .int (iI (q 2)), .ref (A (i + 12)), .ref (A (i + 13)), .int (iI (q 3)), .ref (A (i + 14)), .ref (A (i + 15)), .ref (A (i + 16)), .int (iI (q 4))]) := by rw [hf_39 _ (by omega)]; exact hO
      have v_0 : N_39 0 = pz * -1 := by rw [hN_39, va_up_self, v_0]
      have v_1 : N_39 1 = (qn : Int) := by rw [hN_39, va_up_ne _ _ (by omega)]; exact v_1
      have hoth : ∀ x, 8 ≤ x → N_39 x = N x := fun x a8 => by rw [hN_39, va_up_ne _ _ (by omega)] <;> exact hoth x a8
      have hfr : ∀ j, j ≠ i + 1 → g_39 j = g j := fun j hj => (hf_39 j hj).trans (hfr j hj)
      have v_0 : N_39 0 = ((P : Nat) : Int) := by rw [v_0]; omega
      refine lv_aload_n X.1 X.2.1 dX11_result_42 rfl (lv_at hl 1 rfl) ?_
      refine x_iconst X dX11_result_43 ?_
      refine x_ci (x_runV (k := 1) (As := [.int (iI (0))]) (rest := []) X hW (c_X11_isZero l E A n _ g_39 i 0 q N_39 hi hO (by omega) hN) (by omega) hO rfl gX11_result_X11_isZero rfl rfl rfl (by decide +kernel) ⟨by decide, by decide⟩ rfl hl.1 rfl (Nat.le_of_ble_eq_true rfl) dX11_result_44 ⟨Nat.zero_le _, Nat.zero_le _⟩) hW (fun r_44 g_44 H locs hp_44 hW => ?_)
      obtain ⟨hr_44, he_44⟩ := hp_44
      rw [he_44] at hW
      rw [v_0] at hr_44
      subst hr_44
      refine x_if_eq (tgt := 57) X ⟨by split <;> decide, by split <;> decide⟩ dX11_result_47 (by decide) (fun b_47 => ?_) (fun b_47 => ?_)
      · have hP0 : 0 < P := Nat.pos_of_ne_zero (ifz_nz b_47)
        refine lv_aload_n X.1 X.2.1 dX11_result_57 rfl (lv_at hl 1 rfl) ?_
        refine x_iconst X dX11_result_58 ?_
        refine x_iconst X dX11_result_59 ?_
        refine x_cv (x_runV (k := 2) (As := [.int (iI (2)), .int (iI (0))]) (rest := []) X hW (c_X11_copy l E A n _ g_39 i 2 0 q N_39 hi hO (by omega) (by omega) (by omega) hN) (by omega) hO rfl gX11_result_X11_copy rfl rfl rfl (by decide +kernel) ⟨by decide, by decide⟩ rfl hl.1 rfl (Nat.le_of_ble_eq_true rfl) dX11_result_60 ⟨Nat.zero_le _, Nat.zero_le _⟩) hW (fun g_60 H locs hp_60 hW => ?_)
        obtain ⟨hN, hf_60⟩ := hp_60
        obtain ⟨N_60, hN_60⟩ : ∃ N9 : Nat → Int, N9 = va_up N_39 2 (N_39 0) := ⟨_, rfl⟩
        rw [← hN_60] at hN
        have hO : g_60 i = .inr (11, [.ref (A (i + 1)), .ref (A (i + 2)), .ref (A (i + 3)), .ref (A (i + 4)), .int (iI (q 0)), .ref (A (i + 5)), .ref (A (i + 6)), .ref (A (i + 7)), .ref (A (i + 8)), .int (iI (q 1)), .ref (A (i + 9)), .ref (A (i + 10)), .ref (A (i + 11)), .int (iI (q 2)), .ref (A (i + 12)), .ref (A (i + 13)), .int (iI (q 3)), .ref (A (i + 14)), .ref (A (i + 15)), .ref (A (i + 16)), .int (iI (q 4))]) := by rw [hf_60 _ (by omega)]; exact hO
        have v_2 : N_60 2 = ((P : Nat) : Int) := by rw [hN_60, va_up_self, v_0]
        have v_1 : N_60 1 = (qn : Int) := by rw [hN_60, va_up_ne _ _ (by omega)]; exact v_1
        have v_0 : N_60 0 = ((P : Nat) : Int) := by rw [hN_60, va_up_ne _ _ (by omega)]; exact v_0
        have hoth : ∀ x, 8 ≤ x → N_60 x = N x := fun x a8 => by rw [hN_60, va_up_ne _ _ (by omega)] <;> exact hoth x a8
        have hfr : ∀ j, j ≠ i + 1 → g_60 j = g j := fun j hj => (hf_60 j hj).trans (hfr j hj)
        refine lv_aload_n X.1 X.2.1 dX11_result_63 rfl (lv_at hl 1 rfl) ?_
        refine x_iconst X dX11_result_64 ?_
        refine x_iconst X dX11_result_65 ?_
        refine x_cv (x_runV (k := 2) (As := [.int (iI (3)), .int (iI (1))]) (rest := []) X hW (c_X11_copy l E A n _ g_60 i 3 1 q N_60 hi hO (by omega) (by omega) (by omega) hN) (by omega) hO rfl gX11_result_X11_copy rfl rfl rfl (by decide +kernel) ⟨by decide, by decide⟩ rfl hl.1 rfl (Nat.le_of_ble_eq_true rfl) dX11_result_66 ⟨Nat.zero_le _, Nat.zero_le _⟩) hW (fun g_66 H locs hp_66 hW => ?_)
        obtain ⟨hN, hf_66⟩ := hp_66
        obtain ⟨N_66, hN_66⟩ : ∃ N9 : Nat → Int, N9 = va_up N_60 3 (N_60 1) := ⟨_, rfl⟩
        rw [← hN_66] at hN
        have hO : g_66 i = .inr (11, [.ref (A (i + 1)), .ref (A (i + 2)), .ref (A (i + 3)), .ref (A (i + 4)), .int (iI (q 0)), .ref (A (i + 5)), .ref (A (i + 6)), .ref (A (i + 7)), .ref (A (i + 8)), .int (iI (q 1)), .ref (A (i + 9)), .ref (A (i + 10)), .ref (A (i + 11)), .int (iI (q 2)), .ref (A (i + 12)), .ref (A (i + 13)), .int (iI (q 3)), .ref (A (i + 14)), .ref (A (i + 15)), .ref (A (i + 16)), .int (iI (q 4))]) := by rw [hf_66 _ (by omega)]; exact hO
        have v_3 : N_66 3 = (qn : Int) := by rw [hN_66, va_up_self, v_1]
        have v_1 : N_66 1 = (qn : Int) := by rw [hN_66, va_up_ne _ _ (by omega)]; exact v_1
        have v_0 : N_66 0 = ((P : Nat) : Int) := by rw [hN_66, va_up_ne _ _ (by omega)]; exact v_0
        have v_2 : N_66 2 = ((P : Nat) : Int) := by rw [hN_66, va_up_ne _ _ (by omega)]; exact v_2
        have hoth : ∀ x, 8 ≤ x → N_66 x = N x := fun x a8 => by rw [hN_66, va_up_ne _ _ (by omega)] <;> exact hoth x a8
        have hfr : ∀ j, j ≠ i + 1 → g_66 j = g j := fun j hj => (hf_66 j hj).trans (hfr j hj)
        refine x_iconst X dX11_result_69 ?_
        refine x_seti (((0 : Nat) : Int)) rfl ?_
        refine lv_istore (lv' := [(4, .int (iI (((0 : Nat) : Int)))), (3, .int (iI (1))), (0, .ref (A (i))), (1, .int (iI ((a : Int)))), (2, .int (iI ((b : Int))))]) X.1 X.2.1 dX11_result_70 hl (by decide) rfl (fun ls hl => ?_)
        have loop_72 : ∀ (fuel : Nat) (u : Nat) (w : Nat) (tw : Nat) (Nw : Nat → Int) (g1 : Nat → va_E) (H : Heap) (locs : List Loc) (ls : Array Slot), (u + w) < fuel → (MN E A g1 i Nw) → (0 < u) → (0 < w) → (u ≤ P) → (w ≤ qn) → (GG = 2 ^ tw * Nat.gcd u w) → (Nw 0 = ((P : Nat) : Int)) → (Nw 1 = (qn : Int)) → (Nw 2 = ((u : Nat) : Int)) → (Nw 3 = ((w : Nat) : Int)) → (∀ x, 8 ≤ x → Nw x = N x) → (∀ j, j ≠ i + 1 → g1 j = g j) → wH E (wF A n sz) A n s g1 H locs → lv_has ls 6 [(0, .ref (A (i))), (1, .int (iI ((a : Int)))), (2, .int (iI ((b : Int)))), (3, .int (iI (1))), (4, .int (iI ((tw : Int))))] → W p l e ({ frames := 6, cells := 0, slots := 0, locals := 200 } : Room) s m [.ref (A (i)), .int (iI ((a : Int))), .int (iI ((b : Int)))].toArray below meth c H locs 0 0 (MQ below (va_Qv (fun g' => (∃ N' : Nat → Int, MN E A g' i N' ∧ N' 0 = rdT pz qn ∧ N' 1 = ((rdB pz qn : Nat) : Int) ∧ ∀ x, 8 ≤ x → N' x = N x) ∧ ∀ j, j ≠ i + 1 → g' j = g j) (wAt E A n) (wF A n sz)) [.ref (A (i)), .int (iI ((a : Int))), .int (iI ((b : Int)))].toArray s 0 0 (wF A n sz)) (F0 m 72 ls []) := by
          intro fuel
          induction fuel with
          | zero => intro u w tw Nw g1 H locs ls hm; exact absurd hm (Nat.not_lt_zero _)
          | succ fuel ih_72 =>
            intro u w tw Nw g1 H locs ls hm hN hu0 hw0 huP hwq hG v_0 v_1 v_2 v_3 hoth hfr hW hl
            have hO : g1 i = .inr (11, [.ref (A (i + 1)), .ref (A (i + 2)), .ref (A (i + 3)), .ref (A (i + 4)), .int (iI (q 0)), .ref (A (i + 5)), .ref (A (i + 6)), .ref (A (i + 7)), .ref (A (i + 8)), .int (iI (q 1)), .ref (A (i + 9)), .ref (A (i + 10)), .ref (A (i + 11)), .int (iI (q 2)), .ref (A (i + 12)), .ref (A (i + 13)), .int (iI (q 3)), .ref (A (i + 14)), .ref (A (i + 15)), .ref (A (i + 16)), .int (iI (q 4))]) := (hfr _ (by omega)).trans hOg
            have hgp : 0 < Nat.gcd u w := Nat.gcd_pos_of_pos_right _ hw0
            have htw : tw < 300 := two_lt (Nat.le_trans (Nat.le_mul_of_pos_right _ hgp) (by rw [← hG]; exact hGq)) hq6
            refine lv_aload_n X.1 X.2.1 dX11_result_72 rfl (lv_at hl 0 rfl) ?_
            refine x_iconst X dX11_result_73 ?_
            refine x_ci (x_runV (k := 1) (As := [.int (iI (2))]) (rest := []) X hW (c_X11_isEven l E A n _ g1 i 2 q Nw hi hO (by omega) hN) (by omega) hO rfl gX11_result_X11_isEven rfl rfl rfl (by decide +kernel) ⟨by decide, by decide⟩ rfl hl.1 rfl (Nat.le_of_ble_eq_true rfl) dX11_result_74 ⟨Nat.zero_le _, Nat.zero_le _⟩) hW (fun r_74 g_74 H locs hp_74 hW => ?_)
            obtain ⟨hr_74, he_74⟩ := hp_74
            rw [he_74] at hW
            rw [v_2] at hr_74
            subst hr_74
            refine x_if_eq (tgt := 110) X ⟨by split <;> decide, by split <;> decide⟩ dX11_result_77 (by decide) (fun b_77 => ?_) (fun b_77 => ?_)
            · have hod : u % 2 = 1 ∨ w % 2 = 1 := Or.inl (ifz_odd b_77)
              obtain ⟨gg, hgg⟩ : ∃ gg, gg = Nat.gcd u w := ⟨_, rfl⟩
              have hgo : gg % 2 = 1 := by rw [hgg]; exact gcd_odd hod
              rw [← hgg] at hG
              have loop_110 : ∀ (fuel : Nat) (u1 : Nat) (w1 : Nat) (Nw : Nat → Int) (g2 : Nat → va_E) (H : Heap) (locs : List Loc) (ls : Array Slot), (u1 + w1) < fuel → (MN E A g2 i Nw) → (0 < w1) → (u1 ≤ 10 ^ 60) → (w1 ≤ 10 ^ 60) → (Nat.gcd u1 w1 = gg) → (Nw 0 = ((P : Nat) : Int)) → (Nw 1 = (qn : Int)) → (Nw 2 = ((u1 : Nat) : Int)) → (Nw 3 = ((w1 : Nat) : Int)) → (∀ x, 8 ≤ x → Nw x = N x) → (∀ j, j ≠ i + 1 → g2 j = g j) → wH E (wF A n sz) A n s g2 H locs → lv_has ls 6 [(0, .ref (A (i))), (1, .int (iI ((a : Int)))), (2, .int (iI ((b : Int)))), (3, .int (iI (1))), (4, .int (iI ((tw : Int))))] → W p l e ({ frames := 6, cells := 0, slots := 0, locals := 200 } : Room) s m [.ref (A (i)), .int (iI ((a : Int))), .int (iI ((b : Int)))].toArray below meth c H locs 0 0 (MQ below (va_Qv (fun g' => (∃ N' : Nat → Int, MN E A g' i N' ∧ N' 0 = rdT pz qn ∧ N' 1 = ((rdB pz qn : Nat) : Int) ∧ ∀ x, 8 ≤ x → N' x = N x) ∧ ∀ j, j ≠ i + 1 → g' j = g j) (wAt E A n) (wF A n sz)) [.ref (A (i)), .int (iI ((a : Int))), .int (iI ((b : Int)))].toArray s 0 0 (wF A n sz)) (F0 m 110 ls []) := by
                intro fuel
                induction fuel with
                | zero => intro u1 w1 Nw g2 H locs ls hm; exact absurd hm (Nat.not_lt_zero _)
                | succ fuel ih_110 =>
                  intro u1 w1 Nw g2 H locs ls hm hN hw0 huP hwq hgg v_0 v_1 v_2 v_3 hoth hfr hW hl
                  have hO : g2 i = .inr (11, [.ref (A (i + 1)), .ref (A (i + 2)), .ref (A (i + 3)), .ref (A (i + 4)), .int (iI (q 0)), .ref (A (i + 5)), .ref (A (i + 6)), .ref (A (i + 7)), .ref (A (i + 8)), .int (iI (q 1)), .ref (A (i + 9)), .ref (A (i + 10)), .ref (A (i + 11)), .int (iI (q 2)), .ref (A (i + 12)), .ref (A (i + 13)), .int (iI (q 3)), .ref (A (i + 14)), .ref (A (i + 15)), .ref (A (i + 16)), .int (iI (q 4))]) := (hfr _ (by omega)).trans hOg
                  refine lv_aload_n X.1 X.2.1 dX11_result_110 rfl (lv_at hl 0 rfl) ?_
                  refine x_iconst X dX11_result_111 ?_
                  refine x_ci (x_runV (k := 1) (As := [.int (iI (2))]) (rest := []) X hW (c_X11_isZero l E A n _ g2 i 2 q Nw hi hO (by omega) hN) (by omega) hO rfl gX11_result_X11_isZero rfl rfl rfl (by decide +kernel) ⟨by decide, by decide⟩ rfl hl.1 rfl (Nat.le_of_ble_eq_true rfl) dX11_result_112 ⟨Nat.zero_le _, Nat.zero_le _⟩) hW (fun r_112 g_112 H locs hp_112 hW => ?_)
                  obtain ⟨hr_112, he_112⟩ := hp_112
                  rw [he_112] at hW
                  rw [v_2] at hr_112
                  subst hr_112
                  refine x_if_ne (tgt := 189) X ⟨by split <;> decide, by split <;> decide⟩ dX11_result_115 (by decide) (fun b_115 => ?_) (fun b_115 => ?_)
                  · have hu0 : u1 = 0 := ifz_z2 b_115
                    have hw1g : w1 = gg := by rw [← hgg, hu0, Nat.gcd_zero_left]
                    refine x_iconst X dX11_result_189 ?_
                    refine x_seti (((0 : Nat) : Int)) rfl ?_
                    refine lv_istore (lv' := [(5, .int (iI (((0 : Nat) : Int)))), (0, .ref (A (i))), (1, .int (iI ((a : Int)))), (2, .int (iI ((b : Int)))), (3, .int (iI (1))), (4, .int (iI ((tw : Int))))]) X.1 X.2.1 dX11_result_190 hl (by decide) rfl (fun ls hl => ?_)
                    have loop_192 : ∀ (fuel : Nat) (kk : Nat) (Nw : Nat → Int) (g5 : Nat → va_E) (H : Heap) (locs : List Loc) (ls : Array Slot), (tw - kk) < fuel → (MN E A g5 i Nw) → (kk ≤ tw) → (Nw 0 = ((P : Nat) : Int)) → (Nw 1 = (qn : Int)) → (Nw 2 = ((u1 : Nat) : Int)) → (Nw 3 = ((gg * 2 ^ kk : Nat) : Int)) → (∀ x, 8 ≤ x → Nw x = N x) → (∀ j, j ≠ i + 1 → g5 j = g j) → wH E (wF A n sz) A n s g5 H locs → lv_has ls 6 [(0, .ref (A (i))), (1, .int (iI ((a : Int)))), (2, .int (iI ((b : Int)))), (3, .int (iI (1))), (4, .int (iI ((tw : Int)))), (5, .int (iI ((kk : Int))))] → W p l e ({ frames := 6, cells := 0, slots := 0, locals := 200 } : Room) s m [.ref (A (i)), .int (iI ((a : Int))), .int (iI ((b : Int)))].toArray below meth c H locs 0 0 (MQ below (va_Qv (fun g' => (∃ N' : Nat → Int, MN E A g' i N' ∧ N' 0 = rdT pz qn ∧ N' 1 = ((rdB pz qn : Nat) : Int) ∧ ∀ x, 8 ≤ x → N' x = N x) ∧ ∀ j, j ≠ i + 1 → g' j = g j) (wAt E A n) (wF A n sz)) [.ref (A (i)), .int (iI ((a : Int))), .int (iI ((b : Int)))].toArray s 0 0 (wF A n sz)) (F0 m 192 ls []) := by
                      intro fuel
                      induction fuel with
                      | zero => intro kk Nw g5 H locs ls hm; exact absurd hm (Nat.not_lt_zero _)
                      | succ fuel ih_192 =>
                        intro kk Nw g5 H locs ls hm hN hkk v_0 v_1 v_2 v_3 hoth hfr hW hl
                        have hO : g5 i = .inr (11, [.ref (A (i + 1)), .ref (A (i + 2)), .ref (A (i + 3)), .ref (A (i + 4)), .int (iI (q 0)), .ref (A (i + 5)), .ref (A (i + 6)), .ref (A (i + 7)), .ref (A (i + 8)), .int (iI (q 1)), .ref (A (i + 9)), .ref (A (i + 10)), .ref (A (i + 11)), .int (iI (q 2)), .ref (A (i + 12)), .ref (A (i + 13)), .int (iI (q 3)), .ref (A (i + 14)), .ref (A (i + 15)), .ref (A (i + 16)), .int (iI (q 4))]) := (hfr _ (by omega)).trans hOg
                        have hkp : gg * 2 ^ kk ≤ GG := by rw [hG, Nat.mul_comm]; exact Nat.mul_le_mul_right _ (Nat.pow_le_pow_right (by decide) hkk)
                        refine lv_iload X.1 X.2.1 dX11_result_192 (lv_at hl 5 rfl) ?_
                        refine lv_iload X.1 X.2.1 dX11_result_194 (lv_at hl 4 rfl) ?_
                        refine x_icmp_ge (tgt := 213) X ⟨by omega, by omega⟩ ⟨by omega, by omega⟩ dX11_result_196 (by decide) (fun b_196 => ?_) (fun b_196 => ?_)
                        · have hkt : gg * 2 ^ kk = GG := by rw [show kk = tw from by omega, hG, Nat.mul_comm]
                          rw [hkt] at v_3
                          refine lv_aload_n X.1 X.2.1 dX11_result_213 rfl (lv_at hl 0 rfl) ?_
                          refine x_iconst X dX11_result_214 ?_
                          refine x_iconst X dX11_result_215 ?_
                          refine x_cv (x_runV (k := 2) (As := [.int (iI (4)), .int (iI (3))]) (rest := []) X hW (c_X11_copy l E A n _ g5 i 4 3 q Nw hi hO (by omega) (by omega) (by omega) hN) (by omega) hO rfl gX11_result_X11_copy rfl rfl rfl (by decide +kernel) ⟨by decide, by decide⟩ rfl hl.1 rfl (Nat.le_of_ble_eq_true rfl) dX11_result_216 ⟨Nat.zero_le _, Nat.zero_le _⟩) hW (fun g_216 H locs hp_216 hW => ?_)
                          obtain ⟨hN, hf_216⟩ := hp_216
                          obtain ⟨N_216, hN_216⟩ : ∃ N9 : Nat → Int, N9 = va_up Nw 4 (Nw 3) := ⟨_, rfl⟩
                          rw [← hN_216] at hN
                          have hO : g_216 i = .inr (11, [.ref (A (i + 1)), .ref (A (i + 2)), .ref (A (i + 3)), .ref (A (i + 4)), .int (iI (q 0)), .ref (A (i + 5)), .ref (A (i + 6)), .ref (A (i + 7)), .ref (A (i + 8)), .int (iI (q 1)), .ref (A (i + 9)), .ref (A (i + 10)), .ref (A (i + 11)), .int (iI (q 2)), .ref (A (i + 12)), .ref (A (i + 13)), .int (iI (q 3)), .ref (A (i + 14)), .ref (A (i + 15)), .ref (A (i + 16)), .int (iI (q 4))]) := by rw [hf_216 _ (by omega)]; exact hO
                          have v_4 : N_216 4 = ((GG : Nat) : Int) := by rw [hN_216, va_up_self, v_3]
                          have v_0 : N_216 0 = ((P : Nat) : Int) := by rw [hN_216, va_up_ne _ _ (by omega)]; exact v_0
                          have v_1 : N_216 1 = (qn : Int) := by rw [hN_216, va_up_ne _ _ (by omega)]; exact v_1
                          have v_2 : N_216 2 = ((u1 : Nat) : Int) := by rw [hN_216, va_up_ne _ _ (by omega)]; exact v_2
                          have v_3 : N_216 3 = ((GG : Nat) : Int) := by rw [hN_216, va_up_ne _ _ (by omega)]; exact v_3
                          have hoth : ∀ x, 8 ≤ x → N_216 x = N x := fun x a8 => by rw [hN_216, va_up_ne _ _ (by omega)] <;> exact hoth x a8
                          have hfr : ∀ j, j ≠ i + 1 → g_216 j = g j := fun j hj => (hf_216 j hj).trans (hfr j hj)
                          refine lv_aload_n X.1 X.2.1 dX11_result_219 rfl (lv_at hl 0 rfl) ?_
                          refine x_iconst X dX11_result_220 ?_
                          refine x_iconst X dX11_result_221 ?_
                          refine x_cv (x_runV (k := 2) (As := [.int (iI (0)), .int (iI (4))]) (rest := []) X hW (c_X11_parted l E A n _ g_216 i 0 4 q N_216 (P) GG hi hO (by omega) (by omega) (by omega) (by omega) (by omega) (by omega) (by omega) (by omega) (by omega) hN v_0 v_4 hGp (by omega) (by omega)) (by omega) hO rfl gX11_result_X11_parted rfl rfl rfl (by decide +kernel) ⟨by decide, by decide⟩ rfl hl.1 rfl (Nat.le_of_ble_eq_true rfl) dX11_result_222 ⟨Nat.zero_le _, Nat.zero_le _⟩) hW (fun g_222 H locs hp_222 hW => ?_)
                          obtain ⟨⟨N_222, hN, w_0, hnx_222⟩, hf_222⟩ := hp_222
                          have hO : g_222 i = .inr (11, [.ref (A (i + 1)), .ref (A (i + 2)), .ref (A (i + 3)), .ref (A (i + 4)), .int (iI (q 0)), .ref (A (i + 5)), .ref (A (i + 6)), .ref (A (i + 7)), .ref (A (i + 8)), .int (iI (q 1)), .ref (A (i + 9)), .ref (A (i + 10)), .ref (A (i + 11)), .int (iI (q 2)), .ref (A (i + 12)), .ref (A (i + 13)), .int (iI (q 3)), .ref (A (i + 14)), .ref (A (i + 15)), .ref (A (i + 16)), .int (iI (q 4))]) := by rw [hf_222 _ (by omega)]; exact hO
                          have v_1 : N_222 1 = (qn : Int) := by rw [hnx_222 _ (by omega) (by omega) (by omega) (by omega)]; exact v_1
                          have v_4 : N_222 4 = ((GG : Nat) : Int) := by rw [hnx_222 _ (by omega) (by omega) (by omega) (by omega)]; exact v_4
                          have v_0 : N_222 0 = ((P / GG : Nat) : Int) := w_0
                          have hoth : ∀ x, 8 ≤ x → N_222 x = N x := fun x a8 => by rw [hnx_222 x (by omega) (by omega) (by omega) (by omega)]; exact hoth x a8
                          have hfr : ∀ j, j ≠ i + 1 → g_222 j = g j := fun j hj => (hf_222 j hj).trans (hfr j hj)
                          refine lv_aload_n X.1 X.2.1 dX11_result_225 rfl (lv_at hl 0 rfl) ?_
                          refine x_iconst X dX11_result_226 ?_
                          refine x_iconst X dX11_result_227 ?_
                          refine x_cv (x_runV (k := 2) (As := [.int (iI (1)), .int (iI (4))]) (rest := []) X hW (c_X11_parted l E A n _ g_222 i 1 4 q N_222 (qn) GG hi hO (by omega) (by omega) (by omega) (by omega) (by omega) (by omega) (by omega) (by omega) (by omega) hN v_1 v_4 hGp (by omega) (by omega)) (by omega) hO rfl gX11_result_X11_parted rfl rfl rfl (by decide +kernel) ⟨by decide, by decide⟩ rfl hl.1 rfl (Nat.le_of_ble_eq_true rfl) dX11_result_228 ⟨Nat.zero_le _, Nat.zero_le _⟩) hW (fun g_228 H locs hp_228 hW => ?_)
                          obtain ⟨⟨N_228, hN, w_1, hnx_228⟩, hf_228⟩ := hp_228
                          have hO : g_228 i = .inr (11, [.ref (A (i + 1)), .ref (A (i + 2)), .ref (A (i + 3)), .ref (A (i + 4)), .int (iI (q 0)), .ref (A (i + 5)), .ref (A (i + 6)), .ref (A (i + 7)), .ref (A (i + 8)), .int (iI (q 1)), .ref (A (i + 9)), .ref (A (i + 10)), .ref (A (i + 11)), .int (iI (q 2)), .ref (A (i + 12)), .ref (A (i + 13)), .int (iI (q 3)), .ref (A (i + 14)), .ref (A (i + 15)), .ref (A (i + 16)), .int (iI (q 4))]) := by rw [hf_228 _ (by omega)]; exact hO
                          have v_4 : N_228 4 = ((GG : Nat) : Int) := by rw [hnx_228 _ (by omega) (by omega) (by omega) (by omega)]; exact v_4
                          have v_0 : N_228 0 = ((P / GG : Nat) : Int) := by rw [hnx_228 _ (by omega) (by omega) (by omega) (by omega)]; exact v_0
                          have v_1 : N_228 1 = ((qn / GG : Nat) : Int) := w_1
                          have hoth : ∀ x, 8 ≤ x → N_228 x = N x := fun x a8 => by rw [hnx_228 x (by omega) (by omega) (by omega) (by omega)]; exact hoth x a8
                          have hfr : ∀ j, j ≠ i + 1 → g_228 j = g j := fun j hj => (hf_228 j hj).trans (hfr j hj)
                          refine lv_iload_n X.1 X.2.1 dX11_result_231 rfl (lv_at hl 3 rfl) ?_
                          refine x_if_eq (tgt := 243) X ⟨by decide, by decide⟩ dX11_result_232 (by decide) (fun b_232 => ?_) (fun b_232 => ?_)
                          · exact absurd b_232 (by decide)
                          · refine lv_aload_n X.1 X.2.1 dX11_result_235 rfl (lv_at hl 0 rfl) ?_
                            refine x_iconst X dX11_result_236 ?_
                            refine x_ldc2 X (-1) (by decide) lk_3 dX11_result_237 ?_
                            refine x_cv (x_runV (k := 2) (As := [.int (iI (0)), .long (lI ((-1)))]) (rest := []) X hW (c_X11_times l E A n _ g_228 i 0 q N_228 (-1) hi hO (by omega) hN (by decide) (by decide) (by rw [v_0]; omega) (by rw [v_0]; omega)) (by omega) hO rfl gX11_result_X11_times rfl rfl rfl (by decide +kernel) ⟨by decide, by decide⟩ rfl hl.1 rfl (Nat.le_of_ble_eq_true rfl) dX11_result_240 ⟨Nat.zero_le _, Nat.zero_le _⟩) hW (fun g_240 H locs hp_240 hW => ?_)
                            obtain ⟨hN, hf_240⟩ := hp_240
                            obtain ⟨N_240, hN_240⟩ : ∃ N9 : Nat → Int, N9 = va_up N_228 0 (N_228 0 * -1) := ⟨_, rfl⟩
                            rw [← hN_240] at hN
                            have hO : g_240 i = .inr (11, [.ref (A (i + 1)), .ref (A (i + 2)), .ref (A (i + 3)), .ref (A (i + 4)), .int (iI (q 0)), .ref (A (i + 5)), .ref (A (i + 6)), .ref (A (i + 7)), .ref (A (i + 8)), .int (iI (q 1)), .ref (A (i + 9)), .ref (A (i + 10)), .ref (A (i + 11)), .int (iI (q 2)), .ref (A (i + 12)), .ref (A (i + 13)), .int (iI (q 3)), .ref (A (i + 14)), .ref (A (i + 15)), .ref (A (i + 16)), .int (iI (q 4))]) := by rw [hf_240 _ (by omega)]; exact hO
                            have v_0 : N_240 0 = ((P / GG : Nat) : Int) * -1 := by rw [hN_240, va_up_self, v_0]
                            have v_4 : N_240 4 = ((GG : Nat) : Int) := by rw [hN_240, va_up_ne _ _ (by omega)]; exact v_4
                            have v_1 : N_240 1 = ((qn / GG : Nat) : Int) := by rw [hN_240, va_up_ne _ _ (by omega)]; exact v_1
                            have hoth : ∀ x, 8 ≤ x → N_240 x = N x := fun x a8 => by rw [hN_240, va_up_ne _ _ (by omega)] <;> exact hoth x a8
                            have hfr : ∀ j, j ≠ i + 1 → g_240 j = g j := fun j hj => (hf_240 j hj).trans (hfr j hj)
                            exact x_vret X hr hlk hW (⟨⟨N_240, hN, by rw [v_0]; exact rdT_neg hsg hP hGG, by rw [v_1]; unfold rdB; rw [← hP, ← hGG], hoth⟩, hfr⟩) dX11_result_243
                        · have hp2k : ((gg * 2 ^ kk : Nat) : Int) * 2 = ((gg * 2 ^ (kk + 1) : Nat) : Int) := by rw [Nat.pow_succ, ← Nat.mul_assoc]; omega
                          refine lv_aload_n X.1 X.2.1 dX11_result_199 rfl (lv_at hl 0 rfl) ?_
                          refine x_iconst X dX11_result_200 ?_
                          refine x_ldc2 X (2) (by decide) lk_2 dX11_result_201 ?_
                          refine x_cv (x_runV (k := 2) (As := [.int (iI (3)), .long (lI (2))]) (rest := []) X hW (c_X11_times l E A n _ g5 i 3 q Nw 2 hi hO (by omega) hN (by decide) (by decide) (by rw [v_3]; omega) (by rw [v_3]; omega)) (by omega) hO rfl gX11_result_X11_times rfl rfl rfl (by decide +kernel) ⟨by decide, by decide⟩ rfl hl.1 rfl (Nat.le_of_ble_eq_true rfl) dX11_result_204 ⟨Nat.zero_le _, Nat.zero_le _⟩) hW (fun g_204 H locs hp_204 hW => ?_)
                          obtain ⟨hN, hf_204⟩ := hp_204
                          obtain ⟨N_204, hN_204⟩ : ∃ N9 : Nat → Int, N9 = va_up Nw 3 (Nw 3 * 2) := ⟨_, rfl⟩
                          rw [← hN_204] at hN
                          have hO : g_204 i = .inr (11, [.ref (A (i + 1)), .ref (A (i + 2)), .ref (A (i + 3)), .ref (A (i + 4)), .int (iI (q 0)), .ref (A (i + 5)), .ref (A (i + 6)), .ref (A (i + 7)), .ref (A (i + 8)), .int (iI (q 1)), .ref (A (i + 9)), .ref (A (i + 10)), .ref (A (i + 11)), .int (iI (q 2)), .ref (A (i + 12)), .ref (A (i + 13)), .int (iI (q 3)), .ref (A (i + 14)), .ref (A (i + 15)), .ref (A (i + 16)), .int (iI (q 4))]) := by rw [hf_204 _ (by omega)]; exact hO
                          have v_3 : N_204 3 = ((gg * 2 ^ (kk + 1) : Nat) : Int) := by rw [hN_204, va_up_self, v_3, hp2k]
                          have v_0 : N_204 0 = ((P : Nat) : Int) := by rw [hN_204, va_up_ne _ _ (by omega)]; exact v_0
                          have v_1 : N_204 1 = (qn : Int) := by rw [hN_204, va_up_ne _ _ (by omega)]; exact v_1
                          have v_2 : N_204 2 = ((u1 : Nat) : Int) := by rw [hN_204, va_up_ne _ _ (by omega)]; exact v_2
                          have hoth : ∀ x, 8 ≤ x → N_204 x = N x := fun x a8 => by rw [hN_204, va_up_ne _ _ (by omega)] <;> exact hoth x a8
                          have hfr : ∀ j, j ≠ i + 1 → g_204 j = g j := fun j hj => (hf_204 j hj).trans (hfr j hj)
                          refine lv_iinc (v := iI (((kk + 1 : Nat) : Int))) (lv' := [(5, .int (iI (((kk + 1 : Nat) : Int)))), (0, .ref (A (i))), (1, .int (iI ((a : Int)))), (2, .int (iI ((b : Int)))), (3, .int (iI (1))), (4, .int (iI ((tw : Int))))]) X.1 X.2.1 dX11_result_207 hl (k := 5) rfl (by rw [show (Int32.ofInt (1)) = iI (1) from rfl, iI_add]; rfl) (by decide) rfl (fun ls hl => ?_)
                          refine lv_goto (tgt := 192) X.1 X.2.1 dX11_result_210 (by decide) ?_
                          exact ih_192 (kk + 1) N_204 g_204 _ _ _ (by omega) hN (by omega) v_0 v_1 v_2 v_3 hoth hfr hW (lv_sub hl [1, 2, 3, 4, 5, 0] rfl)
                    exact loop_192 _ 0 Nw g2 _ _ _ (Nat.lt_succ_self _) hN (Nat.zero_le _) v_0 v_1 v_2 (by rw [v_3, hw1g, Nat.pow_zero, Nat.mul_one]) hoth hfr hW (lv_sub hl [1, 2, 3, 4, 5, 0] rfl)
                  · have hu0 : 0 < u1 := Nat.pos_of_ne_zero (ifz_nz b_115)
                    have loop_118 : ∀ (fuel : Nat) (u2 : Nat) (Nw : Nat → Int) (g3 : Nat → va_E) (H : Heap) (locs : List Loc) (ls : Array Slot), (u2) < fuel → (MN E A g3 i Nw) → (0 < u2) → (u2 ≤ u1) → (Nat.gcd u2 w1 = gg) → (Nw 0 = ((P : Nat) : Int)) → (Nw 1 = (qn : Int)) → (Nw 2 = ((u2 : Nat) : Int)) → (Nw 3 = ((w1 : Nat) : Int)) → (∀ x, 8 ≤ x → Nw x = N x) → (∀ j, j ≠ i + 1 → g3 j = g j) → wH E (wF A n sz) A n s g3 H locs → lv_has ls 6 [(0, .ref (A (i))), (1, .int (iI ((a : Int)))), (2, .int (iI ((b : Int)))), (3, .int (iI (1))), (4, .int (iI ((tw : Int))))] → W p l e ({ frames := 6, cells := 0, slots := 0, locals := 200 } : Room) s m [.ref (A (i)), .int (iI ((a : Int))), .int (iI ((b : Int)))].toArray below meth c H locs 0 0 (MQ below (va_Qv (fun g' => (∃ N' : Nat → Int, MN E A g' i N' ∧ N' 0 = rdT pz qn ∧ N' 1 = ((rdB pz qn : Nat) : Int) ∧ ∀ x, 8 ≤ x → N' x = N x) ∧ ∀ j, j ≠ i + 1 → g' j = g j) (wAt E A n) (wF A n sz)) [.ref (A (i)), .int (iI ((a : Int))), .int (iI ((b : Int)))].toArray s 0 0 (wF A n sz)) (F0 m 118 ls []) := by
                      intro fuel
                      induction fuel with
                      | zero => intro u2 Nw g3 H locs ls hm; exact absurd hm (Nat.not_lt_zero _)
                      | succ fuel ih_118 =>
                        intro u2 Nw g3 H locs ls hm hN hu2 hu3 hg1 v_0 v_1 v_2 v_3 hoth hfr hW hl
                        have hO : g3 i = .inr (11, [.ref (A (i + 1)), .ref (A (i + 2)), .ref (A (i + 3)), .ref (A (i + 4)), .int (iI (q 0)), .ref (A (i + 5)), .ref (A (i + 6)), .ref (A (i + 7)), .ref (A (i + 8)), .int (iI (q 1)), .ref (A (i + 9)), .ref (A (i + 10)), .ref (A (i + 11)), .int (iI (q 2)), .ref (A (i + 12)), .ref (A (i + 13)), .int (iI (q 3)), .ref (A (i + 14)), .ref (A (i + 15)), .ref (A (i + 16)), .int (iI (q 4))]) := (hfr _ (by omega)).trans hOg
                        refine lv_aload_n X.1 X.2.1 dX11_result_118 rfl (lv_at hl 0 rfl) ?_
                        refine x_iconst X dX11_result_119 ?_
                        refine x_ci (x_runV (k := 1) (As := [.int (iI (2))]) (rest := []) X hW (c_X11_isEven l E A n _ g3 i 2 q Nw hi hO (by omega) hN) (by omega) hO rfl gX11_result_X11_isEven rfl rfl rfl (by decide +kernel) ⟨by decide, by decide⟩ rfl hl.1 rfl (Nat.le_of_ble_eq_true rfl) dX11_result_120 ⟨Nat.zero_le _, Nat.zero_le _⟩) hW (fun r_120 g_120 H locs hp_120 hW => ?_)
                        obtain ⟨hr_120, he_120⟩ := hp_120
                        rw [he_120] at hW
                        rw [v_2] at hr_120
                        subst hr_120
                        refine x_if_eq (tgt := 137) X ⟨by split <;> decide, by split <;> decide⟩ dX11_result_123 (by decide) (fun b_123 => ?_) (fun b_123 => ?_)
                        · have huo : u2 % 2 = 1 := ifz_odd b_123
                          have loop_137 : ∀ (fuel : Nat) (w2 : Nat) (Nw : Nat → Int) (g4 : Nat → va_E) (H : Heap) (locs : List Loc) (ls : Array Slot), (w2) < fuel → (MN E A g4 i Nw) → (0 < w2) → (w2 ≤ w1) → (Nat.gcd u2 w2 = gg) → (Nw 0 = ((P : Nat) : Int)) → (Nw 1 = (qn : Int)) → (Nw 2 = ((u2 : Nat) : Int)) → (Nw 3 = ((w2 : Nat) : Int)) → (∀ x, 8 ≤ x → Nw x = N x) → (∀ j, j ≠ i + 1 → g4 j = g j) → wH E (wF A n sz) A n s g4 H locs → lv_has ls 6 [(0, .ref (A (i))), (1, .int (iI ((a : Int)))), (2, .int (iI ((b : Int)))), (3, .int (iI (1))), (4, .int (iI ((tw : Int))))] → W p l e ({ frames := 6, cells := 0, slots := 0, locals := 200 } : Room) s m [.ref (A (i)), .int (iI ((a : Int))), .int (iI ((b : Int)))].toArray below meth c H locs 0 0 (MQ below (va_Qv (fun g' => (∃ N' : Nat → Int, MN E A g' i N' ∧ N' 0 = rdT pz qn ∧ N' 1 = ((rdB pz qn : Nat) : Int) ∧ ∀ x, 8 ≤ x → N' x = N x) ∧ ∀ j, j ≠ i + 1 → g' j = g j) (wAt E A n) (wF A n sz)) [.ref (A (i)), .int (iI ((a : Int))), .int (iI ((b : Int)))].toArray s 0 0 (wF A n sz)) (F0 m 137 ls []) := by
                            intro fuel
                            induction fuel with
                            | zero => intro w2 Nw g4 H locs ls hm; exact absurd hm (Nat.not_lt_zero _)
                            | succ fuel ih_137 =>
                              intro w2 Nw g4 H locs ls hm hN hw2 hw3 hg2 v_0 v_1 v_2 v_3 hoth hfr hW hl
                              have hO : g4 i = .inr (11, [.ref (A (i + 1)), .ref (A (i + 2)), .ref (A (i + 3)), .ref (A (i + 4)), .int (iI (q 0)), .ref (A (i + 5)), .ref (A (i + 6)), .ref (A (i + 7)), .ref (A (i + 8)), .int (iI (q 1)), .ref (A (i + 9)), .ref (A (i + 10)), .ref (A (i + 11)), .int (iI (q 2)), .ref (A (i + 12)), .ref (A (i + 13)), .int (iI (q 3)), .ref (A (i + 14)), .ref (A (i + 15)), .ref (A (i + 16)), .int (iI (q 4))]) := (hfr _ (by omega)).trans hOg
                              refine lv_aload_n X.1 X.2.1 dX11_result_137 rfl (lv_at hl 0 rfl) ?_
                              refine x_iconst X dX11_result_138 ?_
                              refine x_ci (x_runV (k := 1) (As := [.int (iI (3))]) (rest := []) X hW (c_X11_isEven l E A n _ g4 i 3 q Nw hi hO (by omega) hN) (by omega) hO rfl gX11_result_X11_isEven rfl rfl rfl (by decide +kernel) ⟨by decide, by decide⟩ rfl hl.1 rfl (Nat.le_of_ble_eq_true rfl) dX11_result_139 ⟨Nat.zero_le _, Nat.zero_le _⟩) hW (fun r_139 g_139 H locs hp_139 hW => ?_)
                              obtain ⟨hr_139, he_139⟩ := hp_139
                              rw [he_139] at hW
                              rw [v_3] at hr_139
                              subst hr_139
                              refine x_if_eq (tgt := 156) X ⟨by split <;> decide, by split <;> decide⟩ dX11_result_142 (by decide) (fun b_142 => ?_) (fun b_142 => ?_)
                              · have hwo : w2 % 2 = 1 := ifz_odd b_142
                                refine lv_aload_n X.1 X.2.1 dX11_result_156 rfl (lv_at hl 0 rfl) ?_
                                refine x_iconst X dX11_result_157 ?_
                                refine x_iconst X dX11_result_158 ?_
                                refine x_ci (x_runV (k := 2) (As := [.int (iI (2)), .int (iI (3))]) (rest := []) X hW (c_X11_compared l E A n _ g4 i 2 3 q Nw hi hO (by omega) (by omega) hN) (by omega) hO rfl gX11_result_X11_compared rfl rfl rfl (by decide +kernel) ⟨by decide, by decide⟩ rfl hl.1 rfl (Nat.le_of_ble_eq_true rfl) dX11_result_159 ⟨Nat.zero_le _, Nat.zero_le _⟩) hW (fun r_159 g_159 H locs hp_159 hW => ?_)
                                obtain ⟨hr_159, he_159⟩ := hp_159
                                rw [he_159] at hW
                                rw [v_2, v_3] at hr_159
                                subst hr_159
                                refine x_if_lt (tgt := 177) X ⟨by repeat (first | decide | split), by repeat (first | decide | split)⟩ dX11_result_162 (by decide) (fun b_162 => ?_) (fun b_162 => ?_)
                                · have hlt2 : u2 < w2 := cmp_lt b_162
                                  have hm2 : ((w2 : Nat) : Int) + ((u2 : Nat) : Int) * -1 = ((w2 - u2 : Nat) : Int) := by omega
                                  refine lv_aload_n X.1 X.2.1 dX11_result_177 rfl (lv_at hl 0 rfl) ?_
                                  refine x_iconst X dX11_result_178 ?_
                                  refine x_iconst X dX11_result_179 ?_
                                  refine x_ldc2 X (-1) (by decide) lk_3 dX11_result_180 ?_
                                  refine x_cv (x_runV (k := 3) (As := [.int (iI (3)), .int (iI (2)), .long (lI ((-1)))]) (rest := []) X hW (c_X11_more l E A n _ g4 i 3 2 q Nw (-1) hi hO (by omega) (by omega) (by omega) hN (by decide) (by decide) (by rw [v_2, v_3]; omega) (by rw [v_2, v_3]; omega)) (by omega) hO rfl gX11_result_X11_more rfl rfl rfl (by decide +kernel) ⟨by decide, by decide⟩ rfl hl.1 rfl (Nat.le_of_ble_eq_true rfl) dX11_result_183 ⟨Nat.zero_le _, Nat.zero_le _⟩) hW (fun g_183 H locs hp_183 hW => ?_)
                                  obtain ⟨hN, hf_183⟩ := hp_183
                                  obtain ⟨N_183, hN_183⟩ : ∃ N9 : Nat → Int, N9 = va_up Nw 3 (Nw 3 + Nw 2 * -1) := ⟨_, rfl⟩
                                  rw [← hN_183] at hN
                                  have hO : g_183 i = .inr (11, [.ref (A (i + 1)), .ref (A (i + 2)), .ref (A (i + 3)), .ref (A (i + 4)), .int (iI (q 0)), .ref (A (i + 5)), .ref (A (i + 6)), .ref (A (i + 7)), .ref (A (i + 8)), .int (iI (q 1)), .ref (A (i + 9)), .ref (A (i + 10)), .ref (A (i + 11)), .int (iI (q 2)), .ref (A (i + 12)), .ref (A (i + 13)), .int (iI (q 3)), .ref (A (i + 14)), .ref (A (i + 15)), .ref (A (i + 16)), .int (iI (q 4))]) := by rw [hf_183 _ (by omega)]; exact hO
                                  have v_3 : N_183 3 = ((w2 - u2 : Nat) : Int) := by rw [hN_183, va_up_self, v_3, v_2, hm2]
                                  have v_0 : N_183 0 = ((P : Nat) : Int) := by rw [hN_183, va_up_ne _ _ (by omega)]; exact v_0
                                  have v_1 : N_183 1 = (qn : Int) := by rw [hN_183, va_up_ne _ _ (by omega)]; exact v_1
                                  have v_2 : N_183 2 = ((u2 : Nat) : Int) := by rw [hN_183, va_up_ne _ _ (by omega)]; exact v_2
                                  have hoth : ∀ x, 8 ≤ x → N_183 x = N x := fun x a8 => by rw [hN_183, va_up_ne _ _ (by omega)] <;> exact hoth x a8
                                  have hfr : ∀ j, j ≠ i + 1 → g_183 j = g j := fun j hj => (hf_183 j hj).trans (hfr j hj)
                                  refine lv_goto (tgt := 110) X.1 X.2.1 dX11_result_186 (by decide) ?_
                                  exact ih_110 u2 (w2 - u2) N_183 g_183 _ _ _ (by omega) hN (by omega) (by omega) (by omega) (by rw [Nat.gcd_comm, gcd_take (by omega), Nat.gcd_comm]; exact hg2) v_0 v_1 v_2 v_3 hoth hfr hW (lv_sub hl [0, 1, 2, 3, 4] rfl)
                                · have hlt2 : w2 ≤ u2 := cmp_ge b_162
                                  have hm1 : ((u2 : Nat) : Int) + ((w2 : Nat) : Int) * -1 = ((u2 - w2 : Nat) : Int) := by omega
                                  refine lv_aload_n X.1 X.2.1 dX11_result_165 rfl (lv_at hl 0 rfl) ?_
                                  refine x_iconst X dX11_result_166 ?_
                                  refine x_iconst X dX11_result_167 ?_
                                  refine x_ldc2 X (-1) (by decide) lk_3 dX11_result_168 ?_
                                  refine x_cv (x_runV (k := 3) (As := [.int (iI (2)), .int (iI (3)), .long (lI ((-1)))]) (rest := []) X hW (c_X11_more l E A n _ g4 i 2 3 q Nw (-1) hi hO (by omega) (by omega) (by omega) hN (by decide) (by decide) (by rw [v_2, v_3]; omega) (by rw [v_2, v_3]; omega)) (by omega) hO rfl gX11_result_X11_more rfl rfl rfl (by decide +kernel) ⟨by decide, by decide⟩ rfl hl.1 rfl (Nat.le_of_ble_eq_true rfl) dX11_result_171 ⟨Nat.zero_le _, Nat.zero_le _⟩) hW (fun g_171 H locs hp_171 hW => ?_)
                                  obtain ⟨hN, hf_171⟩ := hp_171
                                  obtain ⟨N_171, hN_171⟩ : ∃ N9 : Nat → Int, N9 = va_up Nw 2 (Nw 2 + Nw 3 * -1) := ⟨_, rfl⟩
                                  rw [← hN_171] at hN
                                  have hO : g_171 i = .inr (11, [.ref (A (i + 1)), .ref (A (i + 2)), .ref (A (i + 3)), .ref (A (i + 4)), .int (iI (q 0)), .ref (A (i + 5)), .ref (A (i + 6)), .ref (A (i + 7)), .ref (A (i + 8)), .int (iI (q 1)), .ref (A (i + 9)), .ref (A (i + 10)), .ref (A (i + 11)), .int (iI (q 2)), .ref (A (i + 12)), .ref (A (i + 13)), .int (iI (q 3)), .ref (A (i + 14)), .ref (A (i + 15)), .ref (A (i + 16)), .int (iI (q 4))]) := by rw [hf_171 _ (by omega)]; exact hO
                                  have v_2 : N_171 2 = ((u2 - w2 : Nat) : Int) := by rw [hN_171, va_up_self, v_2, v_3, hm1]
                                  have v_0 : N_171 0 = ((P : Nat) : Int) := by rw [hN_171, va_up_ne _ _ (by omega)]; exact v_0
                                  have v_1 : N_171 1 = (qn : Int) := by rw [hN_171, va_up_ne _ _ (by omega)]; exact v_1
                                  have v_3 : N_171 3 = ((w2 : Nat) : Int) := by rw [hN_171, va_up_ne _ _ (by omega)]; exact v_3
                                  have hoth : ∀ x, 8 ≤ x → N_171 x = N x := fun x a8 => by rw [hN_171, va_up_ne _ _ (by omega)] <;> exact hoth x a8
                                  have hfr : ∀ j, j ≠ i + 1 → g_171 j = g j := fun j hj => (hf_171 j hj).trans (hfr j hj)
                                  refine lv_goto (tgt := 110) X.1 X.2.1 dX11_result_174 (by decide) ?_
                                  exact ih_110 (u2 - w2) w2 N_171 g_171 _ _ _ (by omega) hN hw2 (by omega) (by omega) (by rw [gcd_take (by omega)]; exact hg2) v_0 v_1 v_2 v_3 hoth hfr hW (lv_sub hl [0, 1, 2, 3, 4] rfl)
                              · have hwe : w2 % 2 = 0 := ifz_even b_142
                                refine lv_aload_n X.1 X.2.1 dX11_result_145 rfl (lv_at hl 0 rfl) ?_
                                refine x_iconst X dX11_result_146 ?_
                                refine x_ldc2 X (2) (by decide) lk_2 dX11_result_147 ?_
                                refine x_cv (x_runV (k := 2) (As := [.int (iI (3)), .long (lI (2))]) (rest := []) X hW (c_X11_over l E A n _ g4 i 3 q Nw (w2) 2 hi hO (by omega) hN v_3 (by decide) (by decide)) (by omega) hO rfl gX11_result_X11_over rfl rfl rfl (by decide +kernel) ⟨by decide, by decide⟩ rfl hl.1 rfl (Nat.le_of_ble_eq_true rfl) dX11_result_150 ⟨Nat.zero_le _, Nat.zero_le _⟩) hW (fun g_150 H locs hp_150 hW => ?_)
                                obtain ⟨hN, hf_150⟩ := hp_150
                                obtain ⟨N_150, hN_150⟩ : ∃ N9 : Nat → Int, N9 = va_up Nw 3 (((w2 / 2 : Nat) : Int)) := ⟨_, rfl⟩
                                rw [← hN_150] at hN
                                have hO : g_150 i = .inr (11, [.ref (A (i + 1)), .ref (A (i + 2)), .ref (A (i + 3)), .ref (A (i + 4)), .int (iI (q 0)), .ref (A (i + 5)), .ref (A (i + 6)), .ref (A (i + 7)), .ref (A (i + 8)), .int (iI (q 1)), .ref (A (i + 9)), .ref (A (i + 10)), .ref (A (i + 11)), .int (iI (q 2)), .ref (A (i + 12)), .ref (A (i + 13)), .int (iI (q 3)), .ref (A (i + 14)), .ref (A (i + 15)), .ref (A (i + 16)), .int (iI (q 4))]) := by rw [hf_150 _ (by omega)]; exact hO
                                have v_3 : N_150 3 = ((w2 / 2 : Nat) : Int) := by rw [hN_150, va_up_self]
                                have v_0 : N_150 0 = ((P : Nat) : Int) := by rw [hN_150, va_up_ne _ _ (by omega)]; exact v_0
                                have v_1 : N_150 1 = (qn : Int) := by rw [hN_150, va_up_ne _ _ (by omega)]; exact v_1
                                have v_2 : N_150 2 = ((u2 : Nat) : Int) := by rw [hN_150, va_up_ne _ _ (by omega)]; exact v_2
                                have hoth : ∀ x, 8 ≤ x → N_150 x = N x := fun x a8 => by rw [hN_150, va_up_ne _ _ (by omega)] <;> exact hoth x a8
                                have hfr : ∀ j, j ≠ i + 1 → g_150 j = g j := fun j hj => (hf_150 j hj).trans (hfr j hj)
                                refine lv_goto (tgt := 137) X.1 X.2.1 dX11_result_153 (by decide) ?_
                                exact ih_137 (w2 / 2) N_150 g_150 _ _ _ (by omega) hN (by omega) (by omega) (by rw [Nat.gcd_comm, gcd_half_left hwe (by rw [Nat.gcd_comm, hg2]; exact hgo), Nat.gcd_comm]; exact hg2) v_0 v_1 v_2 v_3 hoth hfr hW (lv_sub hl [0, 1, 2, 3, 4] rfl)
                          exact loop_137 _ w1 Nw g3 _ _ _ (Nat.lt_succ_self _) hN hw0 (Nat.le_refl _) hg1 v_0 v_1 v_2 v_3 hoth hfr hW (lv_sub hl [0, 1, 2, 3, 4] rfl)
                        · have hue : u2 % 2 = 0 := ifz_even b_123
                          refine lv_aload_n X.1 X.2.1 dX11_result_126 rfl (lv_at hl 0 rfl) ?_
                          refine x_iconst X dX11_result_127 ?_
                          refine x_ldc2 X (2) (by decide) lk_2 dX11_result_128 ?_
                          refine x_cv (x_runV (k := 2) (As := [.int (iI (2)), .long (lI (2))]) (rest := []) X hW (c_X11_over l E A n _ g3 i 2 q Nw (u2) 2 hi hO (by omega) hN v_2 (by decide) (by decide)) (by omega) hO rfl gX11_result_X11_over rfl rfl rfl (by decide +kernel) ⟨by decide, by decide⟩ rfl hl.1 rfl (Nat.le_of_ble_eq_true rfl) dX11_result_131 ⟨Nat.zero_le _, Nat.zero_le _⟩) hW (fun g_131 H locs hp_131 hW => ?_)
                          obtain ⟨hN, hf_131⟩ := hp_131
                          obtain ⟨N_131, hN_131⟩ : ∃ N9 : Nat → Int, N9 = va_up Nw 2 (((u2 / 2 : Nat) : Int)) := ⟨_, rfl⟩
                          rw [← hN_131] at hN
                          have hO : g_131 i = .inr (11, [.ref (A (i + 1)), .ref (A (i + 2)), .ref (A (i + 3)), .ref (A (i + 4)), .int (iI (q 0)), .ref (A (i + 5)), .ref (A (i + 6)), .ref (A (i + 7)), .ref (A (i + 8)), .int (iI (q 1)), .ref (A (i + 9)), .ref (A (i + 10)), .ref (A (i + 11)), .int (iI (q 2)), .ref (A (i + 12)), .ref (A (i + 13)), .int (iI (q 3)), .ref (A (i + 14)), .ref (A (i + 15)), .ref (A (i + 16)), .int (iI (q 4))]) := by rw [hf_131 _ (by omega)]; exact hO
                          have v_2 : N_131 2 = ((u2 / 2 : Nat) : Int) := by rw [hN_131, va_up_self]
                          have v_0 : N_131 0 = ((P : Nat) : Int) := by rw [hN_131, va_up_ne _ _ (by omega)]; exact v_0
                          have v_1 : N_131 1 = (qn : Int) := by rw [hN_131, va_up_ne _ _ (by omega)]; exact v_1
                          have v_3 : N_131 3 = ((w1 : Nat) : Int) := by rw [hN_131, va_up_ne _ _ (by omega)]; exact v_3
                          have hoth : ∀ x, 8 ≤ x → N_131 x = N x := fun x a8 => by rw [hN_131, va_up_ne _ _ (by omega)] <;> exact hoth x a8
                          have hfr : ∀ j, j ≠ i + 1 → g_131 j = g j := fun j hj => (hf_131 j hj).trans (hfr j hj)
                          refine lv_goto (tgt := 118) X.1 X.2.1 dX11_result_134 (by decide) ?_
                          exact ih_118 (u2 / 2) N_131 g_131 _ _ _ (by omega) hN (by omega) (by omega) (by rw [gcd_half_left hue (by rw [hg1]; exact hgo)]; exact hg1) v_0 v_1 v_2 v_3 hoth hfr hW (lv_sub hl [0, 1, 2, 3, 4] rfl)
                    exact loop_118 _ u1 Nw g2 _ _ _ (Nat.lt_succ_self _) hN (by omega) (Nat.le_refl _) hgg v_0 v_1 v_2 v_3 hoth hfr hW (lv_sub hl [0, 1, 2, 3, 4] rfl)
              exact loop_110 _ u w Nw g1 _ _ _ (Nat.lt_succ_self _) hN hw0 (by omega) (by omega) hgg.symm v_0 v_1 v_2 v_3 hoth hfr hW (lv_sub hl [0, 1, 2, 3, 4] rfl)
            · have hue : u % 2 = 0 := ifz_even b_77
              refine lv_aload_n X.1 X.2.1 dX11_result_80 rfl (lv_at hl 0 rfl) ?_
              refine x_iconst X dX11_result_81 ?_
              refine x_ci (x_runV (k := 1) (As := [.int (iI (3))]) (rest := []) X hW (c_X11_isEven l E A n _ g1 i 3 q Nw hi hO (by omega) hN) (by omega) hO rfl gX11_result_X11_isEven rfl rfl rfl (by decide +kernel) ⟨by decide, by decide⟩ rfl hl.1 rfl (Nat.le_of_ble_eq_true rfl) dX11_result_82 ⟨Nat.zero_le _, Nat.zero_le _⟩) hW (fun r_82 g_82 H locs hp_82 hW => ?_)
              obtain ⟨hr_82, he_82⟩ := hp_82
              rw [he_82] at hW
              rw [v_3] at hr_82
              subst hr_82
              refine x_if_eq (tgt := 110) X ⟨by split <;> decide, by split <;> decide⟩ dX11_result_85 (by decide) (fun b_85 => ?_) (fun b_85 => ?_)
              · have hod : u % 2 = 1 ∨ w % 2 = 1 := Or.inr (ifz_odd b_85)
                obtain ⟨gg, hgg⟩ : ∃ gg, gg = Nat.gcd u w := ⟨_, rfl⟩
                have hgo : gg % 2 = 1 := by rw [hgg]; exact gcd_odd hod
                rw [← hgg] at hG
                have loop_110 : ∀ (fuel : Nat) (u1 : Nat) (w1 : Nat) (Nw : Nat → Int) (g2 : Nat → va_E) (H : Heap) (locs : List Loc) (ls : Array Slot), (u1 + w1) < fuel → (MN E A g2 i Nw) → (0 < w1) → (u1 ≤ 10 ^ 60) → (w1 ≤ 10 ^ 60) → (Nat.gcd u1 w1 = gg) → (Nw 0 = ((P : Nat) : Int)) → (Nw 1 = (qn : Int)) → (Nw 2 = ((u1 : Nat) : Int)) → (Nw 3 = ((w1 : Nat) : Int)) → (∀ x, 8 ≤ x → Nw x = N x) → (∀ j, j ≠ i + 1 → g2 j = g j) → wH E (wF A n sz) A n s g2 H locs → lv_has ls 6 [(0, .ref (A (i))), (1, .int (iI ((a : Int)))), (2, .int (iI ((b : Int)))), (3, .int (iI (1))), (4, .int (iI ((tw : Int))))] → W p l e ({ frames := 6, cells := 0, slots := 0, locals := 200 } : Room) s m [.ref (A (i)), .int (iI ((a : Int))), .int (iI ((b : Int)))].toArray below meth c H locs 0 0 (MQ below (va_Qv (fun g' => (∃ N' : Nat → Int, MN E A g' i N' ∧ N' 0 = rdT pz qn ∧ N' 1 = ((rdB pz qn : Nat) : Int) ∧ ∀ x, 8 ≤ x → N' x = N x) ∧ ∀ j, j ≠ i + 1 → g' j = g j) (wAt E A n) (wF A n sz)) [.ref (A (i)), .int (iI ((a : Int))), .int (iI ((b : Int)))].toArray s 0 0 (wF A n sz)) (F0 m 110 ls []) := by
                  intro fuel
                  induction fuel with
                  | zero => intro u1 w1 Nw g2 H locs ls hm; exact absurd hm (Nat.not_lt_zero _)
                  | succ fuel ih_110 =>
                    intro u1 w1 Nw g2 H locs ls hm hN hw0 huP hwq hgg v_0 v_1 v_2 v_3 hoth hfr hW hl
                    have hO : g2 i = .inr (11, [.ref (A (i + 1)), .ref (A (i + 2)), .ref (A (i + 3)), .ref (A (i + 4)), .int (iI (q 0)), .ref (A (i + 5)), .ref (A (i + 6)), .ref (A (i + 7)), .ref (A (i + 8)), .int (iI (q 1)), .ref (A (i + 9)), .ref (A (i + 10)), .ref (A (i + 11)), .int (iI (q 2)), .ref (A (i + 12)), .ref (A (i + 13)), .int (iI (q 3)), .ref (A (i + 14)), .ref (A (i + 15)), .ref (A (i + 16)), .int (iI (q 4))]) := (hfr _ (by omega)).trans hOg
                    refine lv_aload_n X.1 X.2.1 dX11_result_110 rfl (lv_at hl 0 rfl) ?_
                    refine x_iconst X dX11_result_111 ?_
                    refine x_ci (x_runV (k := 1) (As := [.int (iI (2))]) (rest := []) X hW (c_X11_isZero l E A n _ g2 i 2 q Nw hi hO (by omega) hN) (by omega) hO rfl gX11_result_X11_isZero rfl rfl rfl (by decide +kernel) ⟨by decide, by decide⟩ rfl hl.1 rfl (Nat.le_of_ble_eq_true rfl) dX11_result_112 ⟨Nat.zero_le _, Nat.zero_le _⟩) hW (fun r_112 g_112 H locs hp_112 hW => ?_)
                    obtain ⟨hr_112, he_112⟩ := hp_112
                    rw [he_112] at hW
                    rw [v_2] at hr_112
                    subst hr_112
                    refine x_if_ne (tgt := 189) X ⟨by split <;> decide, by split <;> decide⟩ dX11_result_115 (by decide) (fun b_115 => ?_) (fun b_115 => ?_)
                    · have hu0 : u1 = 0 := ifz_z2 b_115
                      have hw1g : w1 = gg := by rw [← hgg, hu0, Nat.gcd_zero_left]
                      refine x_iconst X dX11_result_189 ?_
                      refine x_seti (((0 : Nat) : Int)) rfl ?_
                      refine lv_istore (lv' := [(5, .int (iI (((0 : Nat) : Int)))), (0, .ref (A (i))), (1, .int (iI ((a : Int)))), (2, .int (iI ((b : Int)))), (3, .int (iI (1))), (4, .int (iI ((tw : Int))))]) X.1 X.2.1 dX11_result_190 hl (by decide) rfl (fun ls hl => ?_)
                      have loop_192 : ∀ (fuel : Nat) (kk : Nat) (Nw : Nat → Int) (g5 : Nat → va_E) (H : Heap) (locs : List Loc) (ls : Array Slot), (tw - kk) < fuel → (MN E A g5 i Nw) → (kk ≤ tw) → (Nw 0 = ((P : Nat) : Int)) → (Nw 1 = (qn : Int)) → (Nw 2 = ((u1 : Nat) : Int)) → (Nw 3 = ((gg * 2 ^ kk : Nat) : Int)) → (∀ x, 8 ≤ x → Nw x = N x) → (∀ j, j ≠ i + 1 → g5 j = g j) → wH E (wF A n sz) A n s g5 H locs → lv_has ls 6 [(0, .ref (A (i))), (1, .int (iI ((a : Int)))), (2, .int (iI ((b : Int)))), (3, .int (iI (1))), (4, .int (iI ((tw : Int)))), (5, .int (iI ((kk : Int))))] → W p l e ({ frames := 6, cells := 0, slots := 0, locals := 200 } : Room) s m [.ref (A (i)), .int (iI ((a : Int))), .int (iI ((b : Int)))].toArray below meth c H locs 0 0 (MQ below (va_Qv (fun g' => (∃ N' : Nat → Int, MN E A g' i N' ∧ N' 0 = rdT pz qn ∧ N' 1 = ((rdB pz qn : Nat) : Int) ∧ ∀ x, 8 ≤ x → N' x = N x) ∧ ∀ j, j ≠ i + 1 → g' j = g j) (wAt E A n) (wF A n sz)) [.ref (A (i)), .int (iI ((a : Int))), .int (iI ((b : Int)))].toArray s 0 0 (wF A n sz)) (F0 m 192 ls []) := by
                        intro fuel
                        induction fuel with
                        | zero => intro kk Nw g5 H locs ls hm; exact absurd hm (Nat.not_lt_zero _)
                        | succ fuel ih_192 =>
                          intro kk Nw g5 H locs ls hm hN hkk v_0 v_1 v_2 v_3 hoth hfr hW hl
                          have hO : g5 i = .inr (11, [.ref (A (i + 1)), .ref (A (i + 2)), .ref (A (i + 3)), .ref (A (i + 4)), .int (iI (q 0)), .ref (A (i + 5)), .ref (A (i + 6)), .ref (A (i + 7)), .ref (A (i + 8)), .int (iI (q 1)), .ref (A (i + 9)), .ref (A (i + 10)), .ref (A (i + 11)), .int (iI (q 2)), .ref (A (i + 12)), .ref (A (i + 13)), .int (iI (q 3)), .ref (A (i + 14)), .ref (A (i + 15)), .ref (A (i + 16)), .int (iI (q 4))]) := (hfr _ (by omega)).trans hOg
                          have hkp : gg * 2 ^ kk ≤ GG := by rw [hG, Nat.mul_comm]; exact Nat.mul_le_mul_right _ (Nat.pow_le_pow_right (by decide) hkk)
                          refine lv_iload X.1 X.2.1 dX11_result_192 (lv_at hl 5 rfl) ?_
                          refine lv_iload X.1 X.2.1 dX11_result_194 (lv_at hl 4 rfl) ?_
                          refine x_icmp_ge (tgt := 213) X ⟨by omega, by omega⟩ ⟨by omega, by omega⟩ dX11_result_196 (by decide) (fun b_196 => ?_) (fun b_196 => ?_)
                          · have hkt : gg * 2 ^ kk = GG := by rw [show kk = tw from by omega, hG, Nat.mul_comm]
                            rw [hkt] at v_3
                            refine lv_aload_n X.1 X.2.1 dX11_result_213 rfl (lv_at hl 0 rfl) ?_
                            refine x_iconst X dX11_result_214 ?_
                            refine x_iconst X dX11_result_215 ?_
                            refine x_cv (x_runV (k := 2) (As := [.int (iI (4)), .int (iI (3))]) (rest := []) X hW (c_X11_copy l E A n _ g5 i 4 3 q Nw hi hO (by omega) (by omega) (by omega) hN) (by omega) hO rfl gX11_result_X11_copy rfl rfl rfl (by decide +kernel) ⟨by decide, by decide⟩ rfl hl.1 rfl (Nat.le_of_ble_eq_true rfl) dX11_result_216 ⟨Nat.zero_le _, Nat.zero_le _⟩) hW (fun g_216 H locs hp_216 hW => ?_)
                            obtain ⟨hN, hf_216⟩ := hp_216
                            obtain ⟨N_216, hN_216⟩ : ∃ N9 : Nat → Int, N9 = va_up Nw 4 (Nw 3) := ⟨_, rfl⟩
                            rw [← hN_216] at hN
                            have hO : g_216 i = .inr (11, [.ref (A (i + 1)), .ref (A (i + 2)), .ref (A (i + 3)), .ref (A (i + 4)), .int (iI (q 0)), .ref (A (i + 5)), .ref (A (i + 6)), .ref (A (i + 7)), .ref (A (i + 8)), .int (iI (q 1)), .ref (A (i + 9)), .ref (A (i + 10)), .ref (A (i + 11)), .int (iI (q 2)), .ref (A (i + 12)), .ref (A (i + 13)), .int (iI (q 3)), .ref (A (i + 14)), .ref (A (i + 15)), .ref (A (i + 16)), .int (iI (q 4))]) := by rw [hf_216 _ (by omega)]; exact hO
                            have v_4 : N_216 4 = ((GG : Nat) : Int) := by rw [hN_216, va_up_self, v_3]
                            have v_0 : N_216 0 = ((P : Nat) : Int) := by rw [hN_216, va_up_ne _ _ (by omega)]; exact v_0
                            have v_1 : N_216 1 = (qn : Int) := by rw [hN_216, va_up_ne _ _ (by omega)]; exact v_1
                            have v_2 : N_216 2 = ((u1 : Nat) : Int) := by rw [hN_216, va_up_ne _ _ (by omega)]; exact v_2
                            have v_3 : N_216 3 = ((GG : Nat) : Int) := by rw [hN_216, va_up_ne _ _ (by omega)]; exact v_3
                            have hoth : ∀ x, 8 ≤ x → N_216 x = N x := fun x a8 => by rw [hN_216, va_up_ne _ _ (by omega)] <;> exact hoth x a8
                            have hfr : ∀ j, j ≠ i + 1 → g_216 j = g j := fun j hj => (hf_216 j hj).trans (hfr j hj)
                            refine lv_aload_n X.1 X.2.1 dX11_result_219 rfl (lv_at hl 0 rfl) ?_
                            refine x_iconst X dX11_result_220 ?_
                            refine x_iconst X dX11_result_221 ?_
                            refine x_cv (x_runV (k := 2) (As := [.int (iI (0)), .int (iI (4))]) (rest := []) X hW (c_X11_parted l E A n _ g_216 i 0 4 q N_216 (P) GG hi hO (by omega) (by omega) (by omega) (by omega) (by omega) (by omega) (by omega) (by omega) (by omega) hN v_0 v_4 hGp (by omega) (by omega)) (by omega) hO rfl gX11_result_X11_parted rfl rfl rfl (by decide +kernel) ⟨by decide, by decide⟩ rfl hl.1 rfl (Nat.le_of_ble_eq_true rfl) dX11_result_222 ⟨Nat.zero_le _, Nat.zero_le _⟩) hW (fun g_222 H locs hp_222 hW => ?_)
                            obtain ⟨⟨N_222, hN, w_0, hnx_222⟩, hf_222⟩ := hp_222
                            have hO : g_222 i = .inr (11, [.ref (A (i + 1)), .ref (A (i + 2)), .ref (A (i + 3)), .ref (A (i + 4)), .int (iI (q 0)), .ref (A (i + 5)), .ref (A (i + 6)), .ref (A (i + 7)), .ref (A (i + 8)), .int (iI (q 1)), .ref (A (i + 9)), .ref (A (i + 10)), .ref (A (i + 11)), .int (iI (q 2)), .ref (A (i + 12)), .ref (A (i + 13)), .int (iI (q 3)), .ref (A (i + 14)), .ref (A (i + 15)), .ref (A (i + 16)), .int (iI (q 4))]) := by rw [hf_222 _ (by omega)]; exact hO
                            have v_1 : N_222 1 = (qn : Int) := by rw [hnx_222 _ (by omega) (by omega) (by omega) (by omega)]; exact v_1
                            have v_4 : N_222 4 = ((GG : Nat) : Int) := by rw [hnx_222 _ (by omega) (by omega) (by omega) (by omega)]; exact v_4
                            have v_0 : N_222 0 = ((P / GG : Nat) : Int) := w_0
                            have hoth : ∀ x, 8 ≤ x → N_222 x = N x := fun x a8 => by rw [hnx_222 x (by omega) (by omega) (by omega) (by omega)]; exact hoth x a8
                            have hfr : ∀ j, j ≠ i + 1 → g_222 j = g j := fun j hj => (hf_222 j hj).trans (hfr j hj)
                            refine lv_aload_n X.1 X.2.1 dX11_result_225 rfl (lv_at hl 0 rfl) ?_
                            refine x_iconst X dX11_result_226 ?_
                            refine x_iconst X dX11_result_227 ?_
                            refine x_cv (x_runV (k := 2) (As := [.int (iI (1)), .int (iI (4))]) (rest := []) X hW (c_X11_parted l E A n _ g_222 i 1 4 q N_222 (qn) GG hi hO (by omega) (by omega) (by omega) (by omega) (by omega) (by omega) (by omega) (by omega) (by omega) hN v_1 v_4 hGp (by omega) (by omega)) (by omega) hO rfl gX11_result_X11_parted rfl rfl rfl (by decide +kernel) ⟨by decide, by decide⟩ rfl hl.1 rfl (Nat.le_of_ble_eq_true rfl) dX11_result_228 ⟨Nat.zero_le _, Nat.zero_le _⟩) hW (fun g_228 H locs hp_228 hW => ?_)
                            obtain ⟨⟨N_228, hN, w_1, hnx_228⟩, hf_228⟩ := hp_228
                            have hO : g_228 i = .inr (11, [.ref (A (i + 1)), .ref (A (i + 2)), .ref (A (i + 3)), .ref (A (i + 4)), .int (iI (q 0)), .ref (A (i + 5)), .ref (A (i + 6)), .ref (A (i + 7)), .ref (A (i + 8)), .int (iI (q 1)), .ref (A (i + 9)), .ref (A (i + 10)), .ref (A (i + 11)), .int (iI (q 2)), .ref (A (i + 12)), .ref (A (i + 13)), .int (iI (q 3)), .ref (A (i + 14)), .ref (A (i + 15)), .ref (A (i + 16)), .int (iI (q 4))]) := by rw [hf_228 _ (by omega)]; exact hO
                            have v_4 : N_228 4 = ((GG : Nat) : Int) := by rw [hnx_228 _ (by omega) (by omega) (by omega) (by omega)]; exact v_4
                            have v_0 : N_228 0 = ((P / GG : Nat) : Int) := by rw [hnx_228 _ (by omega) (by omega) (by omega) (by omega)]; exact v_0
                            have v_1 : N_228 1 = ((qn / GG : Nat) : Int) := w_1
                            have hoth : ∀ x, 8 ≤ x → N_228 x = N x := fun x a8 => by rw [hnx_228 x (by omega) (by omega) (by omega) (by omega)]; exact hoth x a8
                            have hfr : ∀ j, j ≠ i + 1 → g_228 j = g j := fun j hj => (hf_228 j hj).trans (hfr j hj)
                            refine lv_iload_n X.1 X.2.1 dX11_result_231 rfl (lv_at hl 3 rfl) ?_
                            refine x_if_eq (tgt := 243) X ⟨by decide, by decide⟩ dX11_result_232 (by decide) (fun b_232 => ?_) (fun b_232 => ?_)
                            · exact absurd b_232 (by decide)
                            · refine lv_aload_n X.1 X.2.1 dX11_result_235 rfl (lv_at hl 0 rfl) ?_
                              refine x_iconst X dX11_result_236 ?_
                              refine x_ldc2 X (-1) (by decide) lk_3 dX11_result_237 ?_
                              refine x_cv (x_runV (k := 2) (As := [.int (iI (0)), .long (lI ((-1)))]) (rest := []) X hW (c_X11_times l E A n _ g_228 i 0 q N_228 (-1) hi hO (by omega) hN (by decide) (by decide) (by rw [v_0]; omega) (by rw [v_0]; omega)) (by omega) hO rfl gX11_result_X11_times rfl rfl rfl (by decide +kernel) ⟨by decide, by decide⟩ rfl hl.1 rfl (Nat.le_of_ble_eq_true rfl) dX11_result_240 ⟨Nat.zero_le _, Nat.zero_le _⟩) hW (fun g_240 H locs hp_240 hW => ?_)
                              obtain ⟨hN, hf_240⟩ := hp_240
                              obtain ⟨N_240, hN_240⟩ : ∃ N9 : Nat → Int, N9 = va_up N_228 0 (N_228 0 * -1) := ⟨_, rfl⟩
                              rw [← hN_240] at hN
                              have hO : g_240 i = .inr (11, [.ref (A (i + 1)), .ref (A (i + 2)), .ref (A (i + 3)), .ref (A (i + 4)), .int (iI (q 0)), .ref (A (i + 5)), .ref (A (i + 6)), .ref (A (i + 7)), .ref (A (i + 8)), .int (iI (q 1)), .ref (A (i + 9)), .ref (A (i + 10)), .ref (A (i + 11)), .int (iI (q 2)), .ref (A (i + 12)), .ref (A (i + 13)), .int (iI (q 3)), .ref (A (i + 14)), .ref (A (i + 15)), .ref (A (i + 16)), .int (iI (q 4))]) := by rw [hf_240 _ (by omega)]; exact hO
                              have v_0 : N_240 0 = ((P / GG : Nat) : Int) * -1 := by rw [hN_240, va_up_self, v_0]
                              have v_4 : N_240 4 = ((GG : Nat) : Int) := by rw [hN_240, va_up_ne _ _ (by omega)]; exact v_4
                              have v_1 : N_240 1 = ((qn / GG : Nat) : Int) := by rw [hN_240, va_up_ne _ _ (by omega)]; exact v_1
                              have hoth : ∀ x, 8 ≤ x → N_240 x = N x := fun x a8 => by rw [hN_240, va_up_ne _ _ (by omega)] <;> exact hoth x a8
                              have hfr : ∀ j, j ≠ i + 1 → g_240 j = g j := fun j hj => (hf_240 j hj).trans (hfr j hj)
                              exact x_vret X hr hlk hW (⟨⟨N_240, hN, by rw [v_0]; exact rdT_neg hsg hP hGG, by rw [v_1]; unfold rdB; rw [← hP, ← hGG], hoth⟩, hfr⟩) dX11_result_243
                          · have hp2k : ((gg * 2 ^ kk : Nat) : Int) * 2 = ((gg * 2 ^ (kk + 1) : Nat) : Int) := by rw [Nat.pow_succ, ← Nat.mul_assoc]; omega
                            refine lv_aload_n X.1 X.2.1 dX11_result_199 rfl (lv_at hl 0 rfl) ?_
                            refine x_iconst X dX11_result_200 ?_
                            refine x_ldc2 X (2) (by decide) lk_2 dX11_result_201 ?_
                            refine x_cv (x_runV (k := 2) (As := [.int (iI (3)), .long (lI (2))]) (rest := []) X hW (c_X11_times l E A n _ g5 i 3 q Nw 2 hi hO (by omega) hN (by decide) (by decide) (by rw [v_3]; omega) (by rw [v_3]; omega)) (by omega) hO rfl gX11_result_X11_times rfl rfl rfl (by decide +kernel) ⟨by decide, by decide⟩ rfl hl.1 rfl (Nat.le_of_ble_eq_true rfl) dX11_result_204 ⟨Nat.zero_le _, Nat.zero_le _⟩) hW (fun g_204 H locs hp_204 hW => ?_)
                            obtain ⟨hN, hf_204⟩ := hp_204
                            obtain ⟨N_204, hN_204⟩ : ∃ N9 : Nat → Int, N9 = va_up Nw 3 (Nw 3 * 2) := ⟨_, rfl⟩
                            rw [← hN_204] at hN
                            have hO : g_204 i = .inr (11, [.ref (A (i + 1)), .ref (A (i + 2)), .ref (A (i + 3)), .ref (A (i + 4)), .int (iI (q 0)), .ref (A (i + 5)), .ref (A (i + 6)), .ref (A (i + 7)), .ref (A (i + 8)), .int (iI (q 1)), .ref (A (i + 9)), .ref (A (i + 10)), .ref (A (i + 11)), .int (iI (q 2)), .ref (A (i + 12)), .ref (A (i + 13)), .int (iI (q 3)), .ref (A (i + 14)), .ref (A (i + 15)), .ref (A (i + 16)), .int (iI (q 4))]) := by rw [hf_204 _ (by omega)]; exact hO
                            have v_3 : N_204 3 = ((gg * 2 ^ (kk + 1) : Nat) : Int) := by rw [hN_204, va_up_self, v_3, hp2k]
                            have v_0 : N_204 0 = ((P : Nat) : Int) := by rw [hN_204, va_up_ne _ _ (by omega)]; exact v_0
                            have v_1 : N_204 1 = (qn : Int) := by rw [hN_204, va_up_ne _ _ (by omega)]; exact v_1
                            have v_2 : N_204 2 = ((u1 : Nat) : Int) := by rw [hN_204, va_up_ne _ _ (by omega)]; exact v_2
                            have hoth : ∀ x, 8 ≤ x → N_204 x = N x := fun x a8 => by rw [hN_204, va_up_ne _ _ (by omega)] <;> exact hoth x a8
                            have hfr : ∀ j, j ≠ i + 1 → g_204 j = g j := fun j hj => (hf_204 j hj).trans (hfr j hj)
                            refine lv_iinc (v := iI (((kk + 1 : Nat) : Int))) (lv' := [(5, .int (iI (((kk + 1 : Nat) : Int)))), (0, .ref (A (i))), (1, .int (iI ((a : Int)))), (2, .int (iI ((b : Int)))), (3, .int (iI (1))), (4, .int (iI ((tw : Int))))]) X.1 X.2.1 dX11_result_207 hl (k := 5) rfl (by rw [show (Int32.ofInt (1)) = iI (1) from rfl, iI_add]; rfl) (by decide) rfl (fun ls hl => ?_)
                            refine lv_goto (tgt := 192) X.1 X.2.1 dX11_result_210 (by decide) ?_
                            exact ih_192 (kk + 1) N_204 g_204 _ _ _ (by omega) hN (by omega) v_0 v_1 v_2 v_3 hoth hfr hW (lv_sub hl [1, 2, 3, 4, 5, 0] rfl)
                      exact loop_192 _ 0 Nw g2 _ _ _ (Nat.lt_succ_self _) hN (Nat.zero_le _) v_0 v_1 v_2 (by rw [v_3, hw1g, Nat.pow_zero, Nat.mul_one]) hoth hfr hW (lv_sub hl [1, 2, 3, 4, 5, 0] rfl)
                    · have hu0 : 0 < u1 := Nat.pos_of_ne_zero (ifz_nz b_115)
                      have loop_118 : ∀ (fuel : Nat) (u2 : Nat) (Nw : Nat → Int) (g3 : Nat → va_E) (H : Heap) (locs : List Loc) (ls : Array Slot), (u2) < fuel → (MN E A g3 i Nw) → (0 < u2) → (u2 ≤ u1) → (Nat.gcd u2 w1 = gg) → (Nw 0 = ((P : Nat) : Int)) → (Nw 1 = (qn : Int)) → (Nw 2 = ((u2 : Nat) : Int)) → (Nw 3 = ((w1 : Nat) : Int)) → (∀ x, 8 ≤ x → Nw x = N x) → (∀ j, j ≠ i + 1 → g3 j = g j) → wH E (wF A n sz) A n s g3 H locs → lv_has ls 6 [(0, .ref (A (i))), (1, .int (iI ((a : Int)))), (2, .int (iI ((b : Int)))), (3, .int (iI (1))), (4, .int (iI ((tw : Int))))] → W p l e ({ frames := 6, cells := 0, slots := 0, locals := 200 } : Room) s m [.ref (A (i)), .int (iI ((a : Int))), .int (iI ((b : Int)))].toArray below meth c H locs 0 0 (MQ below (va_Qv (fun g' => (∃ N' : Nat → Int, MN E A g' i N' ∧ N' 0 = rdT pz qn ∧ N' 1 = ((rdB pz qn : Nat) : Int) ∧ ∀ x, 8 ≤ x → N' x = N x) ∧ ∀ j, j ≠ i + 1 → g' j = g j) (wAt E A n) (wF A n sz)) [.ref (A (i)), .int (iI ((a : Int))), .int (iI ((b : Int)))].toArray s 0 0 (wF A n sz)) (F0 m 118 ls []) := by
                        intro fuel
                        induction fuel with
                        | zero => intro u2 Nw g3 H locs ls hm; exact absurd hm (Nat.not_lt_zero _)
                        | succ fuel ih_118 =>
                          intro u2 Nw g3 H locs ls hm hN hu2 hu3 hg1 v_0 v_1 v_2 v_3 hoth hfr hW hl
                          have hO : g3 i = .inr (11, [.ref (A (i + 1)), .ref (A (i + 2)), .ref (A (i + 3)), .ref (A (i + 4)), .int (iI (q 0)), .ref (A (i + 5)), .ref (A (i + 6)), .ref (A (i + 7)), .ref (A (i + 8)), .int (iI (q 1)), .ref (A (i + 9)), .ref (A (i + 10)), .ref (A (i + 11)), .int (iI (q 2)), .ref (A (i + 12)), .ref (A (i + 13)), .int (iI (q 3)), .ref (A (i + 14)), .ref (A (i + 15)), .ref (A (i + 16)), .int (iI (q 4))]) := (hfr _ (by omega)).trans hOg
                          refine lv_aload_n X.1 X.2.1 dX11_result_118 rfl (lv_at hl 0 rfl) ?_
                          refine x_iconst X dX11_result_119 ?_
                          refine x_ci (x_runV (k := 1) (As := [.int (iI (2))]) (rest := []) X hW (c_X11_isEven l E A n _ g3 i 2 q Nw hi hO (by omega) hN) (by omega) hO rfl gX11_result_X11_isEven rfl rfl rfl (by decide +kernel) ⟨by decide, by decide⟩ rfl hl.1 rfl (Nat.le_of_ble_eq_true rfl) dX11_result_120 ⟨Nat.zero_le _, Nat.zero_le _⟩) hW (fun r_120 g_120 H locs hp_120 hW => ?_)
                          obtain ⟨hr_120, he_120⟩ := hp_120
                          rw [he_120] at hW
                          rw [v_2] at hr_120
                          subst hr_120
                          refine x_if_eq (tgt := 137) X ⟨by split <;> decide, by split <;> decide⟩ dX11_result_123 (by decide) (fun b_123 => ?_) (fun b_123 => ?_)
                          · have huo : u2 % 2 = 1 := ifz_odd b_123
                            have loop_137 : ∀ (fuel : Nat) (w2 : Nat) (Nw : Nat → Int) (g4 : Nat → va_E) (H : Heap) (locs : List Loc) (ls : Array Slot), (w2) < fuel → (MN E A g4 i Nw) → (0 < w2) → (w2 ≤ w1) → (Nat.gcd u2 w2 = gg) → (Nw 0 = ((P : Nat) : Int)) → (Nw 1 = (qn : Int)) → (Nw 2 = ((u2 : Nat) : Int)) → (Nw 3 = ((w2 : Nat) : Int)) → (∀ x, 8 ≤ x → Nw x = N x) → (∀ j, j ≠ i + 1 → g4 j = g j) → wH E (wF A n sz) A n s g4 H locs → lv_has ls 6 [(0, .ref (A (i))), (1, .int (iI ((a : Int)))), (2, .int (iI ((b : Int)))), (3, .int (iI (1))), (4, .int (iI ((tw : Int))))] → W p l e ({ frames := 6, cells := 0, slots := 0, locals := 200 } : Room) s m [.ref (A (i)), .int (iI ((a : Int))), .int (iI ((b : Int)))].toArray below meth c H locs 0 0 (MQ below (va_Qv (fun g' => (∃ N' : Nat → Int, MN E A g' i N' ∧ N' 0 = rdT pz qn ∧ N' 1 = ((rdB pz qn : Nat) : Int) ∧ ∀ x, 8 ≤ x → N' x = N x) ∧ ∀ j, j ≠ i + 1 → g' j = g j) (wAt E A n) (wF A n sz)) [.ref (A (i)), .int (iI ((a : Int))), .int (iI ((b : Int)))].toArray s 0 0 (wF A n sz)) (F0 m 137 ls []) := by
                              intro fuel
                              induction fuel with
                              | zero => intro w2 Nw g4 H locs ls hm; exact absurd hm (Nat.not_lt_zero _)
                              | succ fuel ih_137 =>
                                intro w2 Nw g4 H locs ls hm hN hw2 hw3 hg2 v_0 v_1 v_2 v_3 hoth hfr hW hl
                                have hO : g4 i = .inr (11, [.ref (A (i + 1)), .ref (A (i + 2)), .ref (A (i + 3)), .ref (A (i + 4)), .int (iI (q 0)), .ref (A (i + 5)), .ref (A (i + 6)), .ref (A (i + 7)), .ref (A (i + 8)), .int (iI (q 1)), .ref (A (i + 9)), .ref (A (i + 10)), .ref (A (i + 11)), .int (iI (q 2)), .ref (A (i + 12)), .ref (A (i + 13)), .int (iI (q 3)), .ref (A (i + 14)), .ref (A (i + 15)), .ref (A (i + 16)), .int (iI (q 4))]) := (hfr _ (by omega)).trans hOg
                                refine lv_aload_n X.1 X.2.1 dX11_result_137 rfl (lv_at hl 0 rfl) ?_
                                refine x_iconst X dX11_result_138 ?_
                                refine x_ci (x_runV (k := 1) (As := [.int (iI (3))]) (rest := []) X hW (c_X11_isEven l E A n _ g4 i 3 q Nw hi hO (by omega) hN) (by omega) hO rfl gX11_result_X11_isEven rfl rfl rfl (by decide +kernel) ⟨by decide, by decide⟩ rfl hl.1 rfl (Nat.le_of_ble_eq_true rfl) dX11_result_139 ⟨Nat.zero_le _, Nat.zero_le _⟩) hW (fun r_139 g_139 H locs hp_139 hW => ?_)
                                obtain ⟨hr_139, he_139⟩ := hp_139
                                rw [he_139] at hW
                                rw [v_3] at hr_139
                                subst hr_139
                                refine x_if_eq (tgt := 156) X ⟨by split <;> decide, by split <;> decide⟩ dX11_result_142 (by decide) (fun b_142 => ?_) (fun b_142 => ?_)
                                · have hwo : w2 % 2 = 1 := ifz_odd b_142
                                  refine lv_aload_n X.1 X.2.1 dX11_result_156 rfl (lv_at hl 0 rfl) ?_
                                  refine x_iconst X dX11_result_157 ?_
                                  refine x_iconst X dX11_result_158 ?_
                                  refine x_ci (x_runV (k := 2) (As := [.int (iI (2)), .int (iI (3))]) (rest := []) X hW (c_X11_compared l E A n _ g4 i 2 3 q Nw hi hO (by omega) (by omega) hN) (by omega) hO rfl gX11_result_X11_compared rfl rfl rfl (by decide +kernel) ⟨by decide, by decide⟩ rfl hl.1 rfl (Nat.le_of_ble_eq_true rfl) dX11_result_159 ⟨Nat.zero_le _, Nat.zero_le _⟩) hW (fun r_159 g_159 H locs hp_159 hW => ?_)
                                  obtain ⟨hr_159, he_159⟩ := hp_159
                                  rw [he_159] at hW
                                  rw [v_2, v_3] at hr_159
                                  subst hr_159
                                  refine x_if_lt (tgt := 177) X ⟨by repeat (first | decide | split), by repeat (first | decide | split)⟩ dX11_result_162 (by decide) (fun b_162 => ?_) (fun b_162 => ?_)
                                  · have hlt2 : u2 < w2 := cmp_lt b_162
                                    have hm2 : ((w2 : Nat) : Int) + ((u2 : Nat) : Int) * -1 = ((w2 - u2 : Nat) : Int) := by omega
                                    refine lv_aload_n X.1 X.2.1 dX11_result_177 rfl (lv_at hl 0 rfl) ?_
                                    refine x_iconst X dX11_result_178 ?_
                                    refine x_iconst X dX11_result_179 ?_
                                    refine x_ldc2 X (-1) (by decide) lk_3 dX11_result_180 ?_
                                    refine x_cv (x_runV (k := 3) (As := [.int (iI (3)), .int (iI (2)), .long (lI ((-1)))]) (rest := []) X hW (c_X11_more l E A n _ g4 i 3 2 q Nw (-1) hi hO (by omega) (by omega) (by omega) hN (by decide) (by decide) (by rw [v_2, v_3]; omega) (by rw [v_2, v_3]; omega)) (by omega) hO rfl gX11_result_X11_more rfl rfl rfl (by decide +kernel) ⟨by decide, by decide⟩ rfl hl.1 rfl (Nat.le_of_ble_eq_true rfl) dX11_result_183 ⟨Nat.zero_le _, Nat.zero_le _⟩) hW (fun g_183 H locs hp_183 hW => ?_)
                                    obtain ⟨hN, hf_183⟩ := hp_183
                                    obtain ⟨N_183, hN_183⟩ : ∃ N9 : Nat → Int, N9 = va_up Nw 3 (Nw 3 + Nw 2 * -1) := ⟨_, rfl⟩
                                    rw [← hN_183] at hN
                                    have hO : g_183 i = .inr (11, [.ref (A (i + 1)), .ref (A (i + 2)), .ref (A (i + 3)), .ref (A (i + 4)), .int (iI (q 0)), .ref (A (i + 5)), .ref (A (i + 6)), .ref (A (i + 7)), .ref (A (i + 8)), .int (iI (q 1)), .ref (A (i + 9)), .ref (A (i + 10)), .ref (A (i + 11)), .int (iI (q 2)), .ref (A (i + 12)), .ref (A (i + 13)), .int (iI (q 3)), .ref (A (i + 14)), .ref (A (i + 15)), .ref (A (i + 16)), .int (iI (q 4))]) := by rw [hf_183 _ (by omega)]; exact hO
                                    have v_3 : N_183 3 = ((w2 - u2 : Nat) : Int) := by rw [hN_183, va_up_self, v_3, v_2, hm2]
                                    have v_0 : N_183 0 = ((P : Nat) : Int) := by rw [hN_183, va_up_ne _ _ (by omega)]; exact v_0
                                    have v_1 : N_183 1 = (qn : Int) := by rw [hN_183, va_up_ne _ _ (by omega)]; exact v_1
                                    have v_2 : N_183 2 = ((u2 : Nat) : Int) := by rw [hN_183, va_up_ne _ _ (by omega)]; exact v_2
                                    have hoth : ∀ x, 8 ≤ x → N_183 x = N x := fun x a8 => by rw [hN_183, va_up_ne _ _ (by omega)] <;> exact hoth x a8
                                    have hfr : ∀ j, j ≠ i + 1 → g_183 j = g j := fun j hj => (hf_183 j hj).trans (hfr j hj)
                                    refine lv_goto (tgt := 110) X.1 X.2.1 dX11_result_186 (by decide) ?_
                                    exact ih_110 u2 (w2 - u2) N_183 g_183 _ _ _ (by omega) hN (by omega) (by omega) (by omega) (by rw [Nat.gcd_comm, gcd_take (by omega), Nat.gcd_comm]; exact hg2) v_0 v_1 v_2 v_3 hoth hfr hW (lv_sub hl [0, 1, 2, 3, 4] rfl)
                                  · have hlt2 : w2 ≤ u2 := cmp_ge b_162
                                    have hm1 : ((u2 : Nat) : Int) + ((w2 : Nat) : Int) * -1 = ((u2 - w2 : Nat) : Int) := by omega
                                    refine lv_aload_n X.1 X.2.1 dX11_result_165 rfl (lv_at hl 0 rfl) ?_
                                    refine x_iconst X dX11_result_166 ?_
                                    refine x_iconst X dX11_result_167 ?_
                                    refine x_ldc2 X (-1) (by decide) lk_3 dX11_result_168 ?_
                                    refine x_cv (x_runV (k := 3) (As := [.int (iI (2)), .int (iI (3)), .long (lI ((-1)))]) (rest := []) X hW (c_X11_more l E A n _ g4 i 2 3 q Nw (-1) hi hO (by omega) (by omega) (by omega) hN (by decide) (by decide) (by rw [v_2, v_3]; omega) (by rw [v_2, v_3]; omega)) (by omega) hO rfl gX11_result_X11_more rfl rfl rfl (by decide +kernel) ⟨by decide, by decide⟩ rfl hl.1 rfl (Nat.le_of_ble_eq_true rfl) dX11_result_171 ⟨Nat.zero_le _, Nat.zero_le _⟩) hW (fun g_171 H locs hp_171 hW => ?_)
                                    obtain ⟨hN, hf_171⟩ := hp_171
                                    obtain ⟨N_171, hN_171⟩ : ∃ N9 : Nat → Int, N9 = va_up Nw 2 (Nw 2 + Nw 3 * -1) := ⟨_, rfl⟩
                                    rw [← hN_171] at hN
                                    have hO : g_171 i = .inr (11, [.ref (A (i + 1)), .ref (A (i + 2)), .ref (A (i + 3)), .ref (A (i + 4)), .int (iI (q 0)), .ref (A (i + 5)), .ref (A (i + 6)), .ref (A (i + 7)), .ref (A (i + 8)), .int (iI (q 1)), .ref (A (i + 9)), .ref (A (i + 10)), .ref (A (i + 11)), .int (iI (q 2)), .ref (A (i + 12)), .ref (A (i + 13)), .int (iI (q 3)), .ref (A (i + 14)), .ref (A (i + 15)), .ref (A (i + 16)), .int (iI (q 4))]) := by rw [hf_171 _ (by omega)]; exact hO
                                    have v_2 : N_171 2 = ((u2 - w2 : Nat) : Int) := by rw [hN_171, va_up_self, v_2, v_3, hm1]
                                    have v_0 : N_171 0 = ((P : Nat) : Int) := by rw [hN_171, va_up_ne _ _ (by omega)]; exact v_0
                                    have v_1 : N_171 1 = (qn : Int) := by rw [hN_171, va_up_ne _ _ (by omega)]; exact v_1
                                    have v_3 : N_171 3 = ((w2 : Nat) : Int) := by rw [hN_171, va_up_ne _ _ (by omega)]; exact v_3
                                    have hoth : ∀ x, 8 ≤ x → N_171 x = N x := fun x a8 => by rw [hN_171, va_up_ne _ _ (by omega)] <;> exact hoth x a8
                                    have hfr : ∀ j, j ≠ i + 1 → g_171 j = g j := fun j hj => (hf_171 j hj).trans (hfr j hj)
                                    refine lv_goto (tgt := 110) X.1 X.2.1 dX11_result_174 (by decide) ?_
                                    exact ih_110 (u2 - w2) w2 N_171 g_171 _ _ _ (by omega) hN hw2 (by omega) (by omega) (by rw [gcd_take (by omega)]; exact hg2) v_0 v_1 v_2 v_3 hoth hfr hW (lv_sub hl [0, 1, 2, 3, 4] rfl)
                                · have hwe : w2 % 2 = 0 := ifz_even b_142
                                  refine lv_aload_n X.1 X.2.1 dX11_result_145 rfl (lv_at hl 0 rfl) ?_
                                  refine x_iconst X dX11_result_146 ?_
                                  refine x_ldc2 X (2) (by decide) lk_2 dX11_result_147 ?_
                                  refine x_cv (x_runV (k := 2) (As := [.int (iI (3)), .long (lI (2))]) (rest := []) X hW (c_X11_over l E A n _ g4 i 3 q Nw (w2) 2 hi hO (by omega) hN v_3 (by decide) (by decide)) (by omega) hO rfl gX11_result_X11_over rfl rfl rfl (by decide +kernel) ⟨by decide, by decide⟩ rfl hl.1 rfl (Nat.le_of_ble_eq_true rfl) dX11_result_150 ⟨Nat.zero_le _, Nat.zero_le _⟩) hW (fun g_150 H locs hp_150 hW => ?_)
                                  obtain ⟨hN, hf_150⟩ := hp_150
                                  obtain ⟨N_150, hN_150⟩ : ∃ N9 : Nat → Int, N9 = va_up Nw 3 (((w2 / 2 : Nat) : Int)) := ⟨_, rfl⟩
                                  rw [← hN_150] at hN
                                  have hO : g_150 i = .inr (11, [.ref (A (i + 1)), .ref (A (i + 2)), .ref (A (i + 3)), .ref (A (i + 4)), .int (iI (q 0)), .ref (A (i + 5)), .ref (A (i + 6)), .ref (A (i + 7)), .ref (A (i + 8)), .int (iI (q 1)), .ref (A (i + 9)), .ref (A (i + 10)), .ref (A (i + 11)), .int (iI (q 2)), .ref (A (i + 12)), .ref (A (i + 13)), .int (iI (q 3)), .ref (A (i + 14)), .ref (A (i + 15)), .ref (A (i + 16)), .int (iI (q 4))]) := by rw [hf_150 _ (by omega)]; exact hO
                                  have v_3 : N_150 3 = ((w2 / 2 : Nat) : Int) := by rw [hN_150, va_up_self]
                                  have v_0 : N_150 0 = ((P : Nat) : Int) := by rw [hN_150, va_up_ne _ _ (by omega)]; exact v_0
                                  have v_1 : N_150 1 = (qn : Int) := by rw [hN_150, va_up_ne _ _ (by omega)]; exact v_1
                                  have v_2 : N_150 2 = ((u2 : Nat) : Int) := by rw [hN_150, va_up_ne _ _ (by omega)]; exact v_2
                                  have hoth : ∀ x, 8 ≤ x → N_150 x = N x := fun x a8 => by rw [hN_150, va_up_ne _ _ (by omega)] <;> exact hoth x a8
                                  have hfr : ∀ j, j ≠ i + 1 → g_150 j = g j := fun j hj => (hf_150 j hj).trans (hfr j hj)
                                  refine lv_goto (tgt := 137) X.1 X.2.1 dX11_result_153 (by decide) ?_
                                  exact ih_137 (w2 / 2) N_150 g_150 _ _ _ (by omega) hN (by omega) (by omega) (by rw [Nat.gcd_comm, gcd_half_left hwe (by rw [Nat.gcd_comm, hg2]; exact hgo), Nat.gcd_comm]; exact hg2) v_0 v_1 v_2 v_3 hoth hfr hW (lv_sub hl [0, 1, 2, 3, 4] rfl)
                            exact loop_137 _ w1 Nw g3 _ _ _ (Nat.lt_succ_self _) hN hw0 (Nat.le_refl _) hg1 v_0 v_1 v_2 v_3 hoth hfr hW (lv_sub hl [0, 1, 2, 3, 4] rfl)
                          · have hue : u2 % 2 = 0 := ifz_even b_123
                            refine lv_aload_n X.1 X.2.1 dX11_result_126 rfl (lv_at hl 0 rfl) ?_
                            refine x_iconst X dX11_result_127 ?_
                            refine x_ldc2 X (2) (by decide) lk_2 dX11_result_128 ?_
                            refine x_cv (x_runV (k := 2) (As := [.int (iI (2)), .long (lI (2))]) (rest := []) X hW (c_X11_over l E A n _ g3 i 2 q Nw (u2) 2 hi hO (by omega) hN v_2 (by decide) (by decide)) (by omega) hO rfl gX11_result_X11_over rfl rfl rfl (by decide +kernel) ⟨by decide, by decide⟩ rfl hl.1 rfl (Nat.le_of_ble_eq_true rfl) dX11_result_131 ⟨Nat.zero_le _, Nat.zero_le _⟩) hW (fun g_131 H locs hp_131 hW => ?_)
                            obtain ⟨hN, hf_131⟩ := hp_131
                            obtain ⟨N_131, hN_131⟩ : ∃ N9 : Nat → Int, N9 = va_up Nw 2 (((u2 / 2 : Nat) : Int)) := ⟨_, rfl⟩
                            rw [← hN_131] at hN
                            have hO : g_131 i = .inr (11, [.ref (A (i + 1)), .ref (A (i + 2)), .ref (A (i + 3)), .ref (A (i + 4)), .int (iI (q 0)), .ref (A (i + 5)), .ref (A (i + 6)), .ref (A (i + 7)), .ref (A (i + 8)), .int (iI (q 1)), .ref (A (i + 9)), .ref (A (i + 10)), .ref (A (i + 11)), .int (iI (q 2)), .ref (A (i + 12)), .ref (A (i + 13)), .int (iI (q 3)), .ref (A (i + 14)), .ref (A (i + 15)), .ref (A (i + 16)), .int (iI (q 4))]) := by rw [hf_131 _ (by omega)]; exact hO
                            have v_2 : N_131 2 = ((u2 / 2 : Nat) : Int) := by rw [hN_131, va_up_self]
                            have v_0 : N_131 0 = ((P : Nat) : Int) := by rw [hN_131, va_up_ne _ _ (by omega)]; exact v_0
                            have v_1 : N_131 1 = (qn : Int) := by rw [hN_131, va_up_ne _ _ (by omega)]; exact v_1
                            have v_3 : N_131 3 = ((w1 : Nat) : Int) := by rw [hN_131, va_up_ne _ _ (by omega)]; exact v_3
                            have hoth : ∀ x, 8 ≤ x → N_131 x = N x := fun x a8 => by rw [hN_131, va_up_ne _ _ (by omega)] <;> exact hoth x a8
                            have hfr : ∀ j, j ≠ i + 1 → g_131 j = g j := fun j hj => (hf_131 j hj).trans (hfr j hj)
                            refine lv_goto (tgt := 118) X.1 X.2.1 dX11_result_134 (by decide) ?_
                            exact ih_118 (u2 / 2) N_131 g_131 _ _ _ (by omega) hN (by omega) (by omega) (by rw [gcd_half_left hue (by rw [hg1]; exact hgo)]; exact hg1) v_0 v_1 v_2 v_3 hoth hfr hW (lv_sub hl [0, 1, 2, 3, 4] rfl)
                      exact loop_118 _ u1 Nw g2 _ _ _ (Nat.lt_succ_self _) hN (by omega) (Nat.le_refl _) hgg v_0 v_1 v_2 v_3 hoth hfr hW (lv_sub hl [0, 1, 2, 3, 4] rfl)
                exact loop_110 _ u w Nw g1 _ _ _ (Nat.lt_succ_self _) hN hw0 (by omega) (by omega) hgg.symm v_0 v_1 v_2 v_3 hoth hfr hW (lv_sub hl [0, 1, 2, 3, 4] rfl)
              · have hwe : w % 2 = 0 := ifz_even b_85
                refine lv_aload_n X.1 X.2.1 dX11_result_88 rfl (lv_at hl 0 rfl) ?_
                refine x_iconst X dX11_result_89 ?_
                refine x_ldc2 X (2) (by decide) lk_2 dX11_result_90 ?_
                refine x_cv (x_runV (k := 2) (As := [.int (iI (2)), .long (lI (2))]) (rest := []) X hW (c_X11_over l E A n _ g1 i 2 q Nw (u) 2 hi hO (by omega) hN v_2 (by decide) (by decide)) (by omega) hO rfl gX11_result_X11_over rfl rfl rfl (by decide +kernel) ⟨by decide, by decide⟩ rfl hl.1 rfl (Nat.le_of_ble_eq_true rfl) dX11_result_93 ⟨Nat.zero_le _, Nat.zero_le _⟩) hW (fun g_93 H locs hp_93 hW => ?_)
                obtain ⟨hN, hf_93⟩ := hp_93
                obtain ⟨N_93, hN_93⟩ : ∃ N9 : Nat → Int, N9 = va_up Nw 2 (((u / 2 : Nat) : Int)) := ⟨_, rfl⟩
                rw [← hN_93] at hN
                have hO : g_93 i = .inr (11, [.ref (A (i + 1)), .ref (A (i + 2)), .ref (A (i + 3)), .ref (A (i + 4)), .int (iI (q 0)), .ref (A (i + 5)), .ref (A (i + 6)), .ref (A (i + 7)), .ref (A (i + 8)), .int (iI (q 1)), .ref (A (i + 9)), .ref (A (i + 10)), .ref (A (i + 11)), .int (iI (q 2)), .ref (A (i + 12)), .ref (A (i + 13)), .int (iI (q 3)), .ref (A (i + 14)), .ref (A (i + 15)), .ref (A (i + 16)), .int (iI (q 4))]) := by rw [hf_93 _ (by omega)]; exact hO
                have v_2 : N_93 2 = ((u / 2 : Nat) : Int) := by rw [hN_93, va_up_self]
                have v_0 : N_93 0 = ((P : Nat) : Int) := by rw [hN_93, va_up_ne _ _ (by omega)]; exact v_0
                have v_1 : N_93 1 = (qn : Int) := by rw [hN_93, va_up_ne _ _ (by omega)]; exact v_1
                have v_3 : N_93 3 = ((w : Nat) : Int) := by rw [hN_93, va_up_ne _ _ (by omega)]; exact v_3
                have hoth : ∀ x, 8 ≤ x → N_93 x = N x := fun x a8 => by rw [hN_93, va_up_ne _ _ (by omega)] <;> exact hoth x a8
                have hfr : ∀ j, j ≠ i + 1 → g_93 j = g j := fun j hj => (hf_93 j hj).trans (hfr j hj)
                refine lv_aload_n X.1 X.2.1 dX11_result_96 rfl (lv_at hl 0 rfl) ?_
                refine x_iconst X dX11_result_97 ?_
                refine x_ldc2 X (2) (by decide) lk_2 dX11_result_98 ?_
                refine x_cv (x_runV (k := 2) (As := [.int (iI (3)), .long (lI (2))]) (rest := []) X hW (c_X11_over l E A n _ g_93 i 3 q N_93 (w) 2 hi hO (by omega) hN v_3 (by decide) (by decide)) (by omega) hO rfl gX11_result_X11_over rfl rfl rfl (by decide +kernel) ⟨by decide, by decide⟩ rfl hl.1 rfl (Nat.le_of_ble_eq_true rfl) dX11_result_101 ⟨Nat.zero_le _, Nat.zero_le _⟩) hW (fun g_101 H locs hp_101 hW => ?_)
                obtain ⟨hN, hf_101⟩ := hp_101
                obtain ⟨N_101, hN_101⟩ : ∃ N9 : Nat → Int, N9 = va_up N_93 3 (((w / 2 : Nat) : Int)) := ⟨_, rfl⟩
                rw [← hN_101] at hN
                have hO : g_101 i = .inr (11, [.ref (A (i + 1)), .ref (A (i + 2)), .ref (A (i + 3)), .ref (A (i + 4)), .int (iI (q 0)), .ref (A (i + 5)), .ref (A (i + 6)), .ref (A (i + 7)), .ref (A (i + 8)), .int (iI (q 1)), .ref (A (i + 9)), .ref (A (i + 10)), .ref (A (i + 11)), .int (iI (q 2)), .ref (A (i + 12)), .ref (A (i + 13)), .int (iI (q 3)), .ref (A (i + 14)), .ref (A (i + 15)), .ref (A (i + 16)), .int (iI (q 4))]) := by rw [hf_101 _ (by omega)]; exact hO
                have v_3 : N_101 3 = ((w / 2 : Nat) : Int) := by rw [hN_101, va_up_self]
                have v_0 : N_101 0 = ((P : Nat) : Int) := by rw [hN_101, va_up_ne _ _ (by omega)]; exact v_0
                have v_1 : N_101 1 = (qn : Int) := by rw [hN_101, va_up_ne _ _ (by omega)]; exact v_1
                have v_2 : N_101 2 = ((u / 2 : Nat) : Int) := by rw [hN_101, va_up_ne _ _ (by omega)]; exact v_2
                have hoth : ∀ x, 8 ≤ x → N_101 x = N x := fun x a8 => by rw [hN_101, va_up_ne _ _ (by omega)] <;> exact hoth x a8
                have hfr : ∀ j, j ≠ i + 1 → g_101 j = g j := fun j hj => (hf_101 j hj).trans (hfr j hj)
                refine lv_iinc (v := iI (((tw + 1 : Nat) : Int))) (lv' := [(4, .int (iI (((tw + 1 : Nat) : Int)))), (0, .ref (A (i))), (1, .int (iI ((a : Int)))), (2, .int (iI ((b : Int)))), (3, .int (iI (1)))]) X.1 X.2.1 dX11_result_104 hl (k := 4) rfl (by rw [show (Int32.ofInt (1)) = iI (1) from rfl, iI_add]; rfl) (by decide) rfl (fun ls hl => ?_)
                refine lv_goto (tgt := 72) X.1 X.2.1 dX11_result_107 (by decide) ?_
                exact ih_72 (u / 2) (w / 2) (tw + 1) N_101 g_101 _ _ _ (by omega) hN (by omega) (by omega) (by omega) (by omega) (by rw [hG, gcd_both_half hue hwe, Nat.pow_succ, Nat.mul_assoc]) v_0 v_1 v_2 v_3 hoth hfr hW (lv_sub hl [1, 2, 3, 4, 0] rfl)
        exact loop_72 _ P qn 0 N_66 g_66 _ _ _ (Nat.lt_succ_self _) hN (by omega) hq0 (Nat.le_refl _) (Nat.le_refl _) (by rw [hGG, Nat.pow_zero, Nat.one_mul]) v_0 v_1 v_2 v_3 hoth hfr hW (lv_sub hl [2, 3, 4, 1, 0] rfl)
      · have hP0 : P = 0 := ifz_z2 b_47
        refine lv_aload_n X.1 X.2.1 dX11_result_50 rfl (lv_at hl 1 rfl) ?_
        refine x_iconst X dX11_result_51 ?_
        refine x_lconst X 1 (by decide) dX11_result_52 ?_
        refine x_cv (x_runV (k := 2) (As := [.int (iI (1)), .long (lI (1))]) (rest := []) X hW (c_X11_set l E A n _ g_39 i 1 q N_39 1 hi hO (by omega) hN (by decide) (by decide)) (by omega) hO rfl gX11_result_X11_set rfl rfl rfl (by decide +kernel) ⟨by decide, by decide⟩ rfl hl.1 rfl (Nat.le_of_ble_eq_true rfl) dX11_result_53 ⟨Nat.zero_le _, Nat.zero_le _⟩) hW (fun g_53 H locs hp_53 hW => ?_)
        obtain ⟨hN, hf_53⟩ := hp_53
        obtain ⟨N_53, hN_53⟩ : ∃ N9 : Nat → Int, N9 = va_up N_39 1 (1) := ⟨_, rfl⟩
        rw [← hN_53] at hN
        have hO : g_53 i = .inr (11, [.ref (A (i + 1)), .ref (A (i + 2)), .ref (A (i + 3)), .ref (A (i + 4)), .int (iI (q 0)), .ref (A (i + 5)), .ref (A (i + 6)), .ref (A (i + 7)), .ref (A (i + 8)), .int (iI (q 1)), .ref (A (i + 9)), .ref (A (i + 10)), .ref (A (i + 11)), .int (iI (q 2)), .ref (A (i + 12)), .ref (A (i + 13)), .int (iI (q 3)), .ref (A (i + 14)), .ref (A (i + 15)), .ref (A (i + 16)), .int (iI (q 4))]) := by rw [hf_53 _ (by omega)]; exact hO
        have v_1 : N_53 1 = 1 := by rw [hN_53, va_up_self]
        have v_0 : N_53 0 = ((P : Nat) : Int) := by rw [hN_53, va_up_ne _ _ (by omega)]; exact v_0
        have hoth : ∀ x, 8 ≤ x → N_53 x = N x := fun x a8 => by rw [hN_53, va_up_ne _ _ (by omega)] <;> exact hoth x a8
        have hfr : ∀ j, j ≠ i + 1 → g_53 j = g j := fun j hj => (hf_53 j hj).trans (hfr j hj)
        exact x_vret X hr hlk hW (⟨⟨N_53, hN, by rw [v_0, hP0]; unfold rdT; rw [show pz = 0 from by omega, Int.sign_zero, Int.zero_mul]; rfl, by rw [v_1]; unfold rdB; rw [← hP, hP0, Nat.gcd_zero_left, Nat.div_self hq0]; rfl, hoth⟩, hfr⟩) dX11_result_56
