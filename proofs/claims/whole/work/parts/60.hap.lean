/-! ===== the class's Happenings ===== -/
def HapV (E : wE) (A : Nat → Nat) (g : Nat → va_E) (i hz : Nat) (ta tb : Nat → Nat) : Prop := g i = .inr (4, [.ref (A (i + 1)), .ref (A (i + 2)), .int (iI ((hz : Int))), .ref (A (i + 3)), .ref (A (i + 5)), .ref (A (i + 7))]) ∧ hz ≤ 20 ∧ (∀ k, k < hz → ta k ≤ tb k ∧ 1 ≤ tb k ∧ tb k ≤ 100) ∧ (∃ f h : Nat → Int32, g (i + 1) = aI E 20 f ∧ g (i + 2) = aI E 20 h ∧ ∀ k, k < hz → f k = iI ((ta k : Nat) : Int) ∧ h k = iI ((tb k : Nat) : Int)) ∧ NatX E A g (i + 3) ∧ NatX E A g (i + 5) ∧ NatX E A g (i + 7)
theorem HapV.frame {E : wE} {A : Nat → Nat} {g g' : Nat → va_E} {i hz : Nat} {ta tb : Nat → Nat} (h : HapV E A g i hz ta tb) (hf : ∀ j, i ≤ j → j ≤ i + 8 → g' j = g j) : HapV E A g' i hz ta tb := by
  obtain ⟨h0, h1, h2, ⟨f, hh, a1, a2, a3⟩, n1, n2, n3⟩ := h
  exact ⟨(hf _ (by omega) (by omega)).trans h0, h1, h2, ⟨f, hh, (hf _ (by omega) (by omega)).trans a1, (hf _ (by omega) (by omega)).trans a2, a3⟩, n1.frame (hf _ (by omega) (by omega)) (hf _ (by omega) (by omega)), n2.frame (hf _ (by omega) (by omega)) (hf _ (by omega) (by omega)), n3.frame (hf _ (by omega) (by omega)) (hf _ (by omega) (by omega))⟩
/-- from the last happening to the first: quiet, win, the most that can be won, and from where -/
def hpQ (ta tb : Nat → Nat) (hz : Nat) : Nat → Nat
  | 0 => 1
  | d + 1 => hpQ ta tb hz d * (tb (hz - 1 - d) - ta (hz - 1 - d))
def hpW (ta tb : Nat → Nat) (hz : Nat) : Nat → Nat
  | 0 => 0
  | d + 1 => hpW ta tb hz d * (tb (hz - 1 - d) - ta (hz - 1 - d)) + hpQ ta tb hz d * ta (hz - 1 - d)
def hpM (ta tb : Nat → Nat) (hz : Nat) : Nat → Nat
  | 0 => 0
  | d + 1 => if hpM ta tb hz d * tb (hz - 1 - d) < hpW ta tb hz (d + 1) then hpW ta tb hz (d + 1) else hpM ta tb hz d * tb (hz - 1 - d)
def hpS (ta tb : Nat → Nat) (hz : Nat) : Nat → Nat
  | 0 => hz - 1
  | d + 1 => if hpM ta tb hz d * tb (hz - 1 - d) < hpW ta tb hz (d + 1) then hz - 1 - d else hpS ta tb hz d
theorem hp_cap {ta tb : Nat → Nat} {hz : Nat} (h : ∀ k, k < hz → ta k ≤ tb k ∧ 1 ≤ tb k ∧ tb k ≤ 100) : ∀ d, d ≤ hz → hpW ta tb hz d + hpQ ta tb hz d ≤ 100 ^ d ∧ hpM ta tb hz d ≤ 100 ^ d := by
  intro d
  induction d with
  | zero => intro _; exact ⟨Nat.le_refl _, Nat.zero_le _⟩
  | succ d ih =>
    intro hd
    obtain ⟨h1, h2⟩ := ih (by omega)
    have h3 := h (hz - 1 - d) (by omega)
    have a1 : hpW ta tb hz (d + 1) + hpQ ta tb hz (d + 1) ≤ 100 ^ (d + 1) := by
      show (hpW ta tb hz d * (tb (hz - 1 - d) - ta (hz - 1 - d)) + hpQ ta tb hz d * ta (hz - 1 - d)) + hpQ ta tb hz d * (tb (hz - 1 - d) - ta (hz - 1 - d)) ≤ _
      have b1 : hpQ ta tb hz d * ta (hz - 1 - d) + hpQ ta tb hz d * (tb (hz - 1 - d) - ta (hz - 1 - d)) = hpQ ta tb hz d * tb (hz - 1 - d) := by rw [← Nat.mul_add]; congr 1; omega
      have b2 : hpW ta tb hz d * (tb (hz - 1 - d) - ta (hz - 1 - d)) ≤ hpW ta tb hz d * tb (hz - 1 - d) := Nat.mul_le_mul_left _ (Nat.sub_le _ _)
      have b3 : (hpW ta tb hz d + hpQ ta tb hz d) * tb (hz - 1 - d) ≤ 100 ^ d * 100 := Nat.mul_le_mul h1 h3.2.2
      rw [Nat.add_mul] at b3
      rw [Nat.pow_succ]
      omega
    refine ⟨a1, ?_⟩
    show (if _ then _ else _) ≤ _
    have b4 : hpM ta tb hz d * tb (hz - 1 - d) ≤ 100 ^ d * 100 := Nat.mul_le_mul h2 h3.2.2
    rw [Nat.pow_succ] at *
    split <;> omega
theorem pow100 {d : Nat} (h : d ≤ 20) : 100 ^ d ≤ 10 ^ 40 := Nat.le_trans (Nat.pow_le_pow_right (by decide) h) (by decide)

set_option maxHeartbeats 4000000 in
set_option maxRecDepth 100000 in
/-- size -/
theorem c_X4_size (l : Launch) (E : wE) (A : Nat → Nat) (n sz : Nat) (g : Nat → va_E) (i hz : Nat) (ta tb : Nat → Nat) (hi : i + 8 < n) (hV : HapV E A g i hz ta tb) : Met l yX4_size wsX4_size ({ frames := 1, cells := 0, slots := 0, locals := 30 } : Room) (va_Pc [.ref (A (i))] (wPre E A n sz g)) (va_Qi (fun r g' => r = iI (hz : Int) ∧ g' = g) (wAt E A n) (wF A n sz)) 0 0 (wF A n sz) := by
  refine x_met (cc := cX4_size) (maxL := 1) (ret := (some .int)) [.ref (A (i))] (by decide) rfl (Nat.le_of_ble_eq_true rfl) ?_
  intro p e s m below meth c ls X hr hlk hnm hsz hW hl
  have hl : lv_has ls 1 [(0, .ref (A (i)))] := hl
  have lk_0 : ∀ w ∈ wsX40, w ∈ wsX4_size := by decide +kernel
  have lk_1 : Cond.fieldLink RX4 18 (TX4 2).1 (TX4 2).2.1 (TX4 2).2.2.1 ∈ wsX4_size := by decide +kernel
  have hVg := hV
  obtain ⟨h0, hz20, hab, ⟨f, h, h1, h2, hf⟩, n_3, n_5, n_7⟩ := hV
  refine lv_aload_n X.1 X.2.1 dX4_size_0 rfl (lv_at hl 0 rfl) ?_
  refine x_get (C := RX4) (T := TX4) (N := 6) X hW (by omega) h0 rfl lk_0 2 (by decide) lk_1 rfl dX4_size_1 ?_
  exact x_iret X hr hlk hW (⟨rfl, rfl⟩) dX4_size_4

set_option maxHeartbeats 4000000 in
set_option maxRecDepth 100000 in
/-- clear -/
theorem c_X4_clear (l : Launch) (E : wE) (A : Nat → Nat) (n sz : Nat) (g : Nat → va_E) (i hz : Nat) (ta tb : Nat → Nat) (hi : i + 8 < n) (hV : HapV E A g i hz ta tb) : Met l yX4_clear wsX4_clear ({ frames := 1, cells := 0, slots := 0, locals := 30 } : Room) (va_Pc [.ref (A (i))] (wPre E A n sz g)) (va_Qi (fun r g' => r = iI (hz : Int) ∧ HapV E A g' i 0 ta tb ∧ ∀ j, j ≠ i → g' j = g j) (wAt E A n) (wF A n sz)) 0 0 (wF A n sz) := by
  refine x_met (cc := cX4_clear) (maxL := 2) (ret := (some .int)) [.ref (A (i))] (by decide) rfl (Nat.le_of_ble_eq_true rfl) ?_
  intro p e s m below meth c ls X hr hlk hnm hsz hW hl
  have hl : lv_has ls 2 [(0, .ref (A (i)))] := hl
  have lk_0 : ∀ w ∈ wsX40, w ∈ wsX4_clear := by decide +kernel
  have lk_1 : Cond.fieldLink RX4 18 (TX4 2).1 (TX4 2).2.1 (TX4 2).2.2.1 ∈ wsX4_clear := by decide +kernel
  have hVg := hV
  obtain ⟨h0, hz20, hab, ⟨f, h, h1, h2, hf⟩, n_3, n_5, n_7⟩ := hV
  refine lv_aload_n X.1 X.2.1 dX4_clear_0 rfl (lv_at hl 0 rfl) ?_
  refine x_get (C := RX4) (T := TX4) (N := 6) X hW (by omega) h0 rfl lk_0 2 (by decide) lk_1 rfl dX4_clear_1 ?_
  refine lv_istore_n (lv' := [(1, .int (iI ((hz : Int)))), (0, .ref (A (i)))]) X.1 X.2.1 dX4_clear_4 rfl hl (by decide) rfl (fun ls hl => ?_)
  refine lv_aload_n X.1 X.2.1 dX4_clear_5 rfl (lv_at hl 1 rfl) ?_
  refine x_iconst X dX4_clear_6 ?_
  refine x_seti (((0 : Nat) : Int)) rfl ?_
  refine x_put (C := RX4) (T := TX4) (N := 6) X hW (by omega) h0 rfl lk_0 tyX4 tyX4_ok nmX4 2 (by decide) lk_1 rfl rfl rfl (Nat.le_of_ble_eq_true rfl) dX4_clear_7 (fun g_7 H locs hg_7 hW => ?_)
  have h1 : g_7 (i + 1) = aI E 20 f := by rw [hg_7, va_up_ne _ _ (by omega)]; exact h1
  have h2 : g_7 (i + 2) = aI E 20 h := by rw [hg_7, va_up_ne _ _ (by omega)]; exact h2
  have h0 : g_7 i = .inr (4, [.ref (A (i + 1)), .ref (A (i + 2)), .int (iI (((0 : Nat) : Int))), .ref (A (i + 3)), .ref (A (i + 5)), .ref (A (i + 7))]) := by rw [hg_7]; exact va_up_self _ _ _
  have hq9 : ∀ j, j ≠ i → g_7 j = g j := fun j hj => by rw [hg_7, va_up_ne _ _ hj]
  refine lv_iload_n X.1 X.2.1 dX4_clear_10 rfl (lv_at hl 0 rfl) ?_
  exact x_iret X hr hlk hW (⟨rfl, ⟨h0, by decide, fun k hk => absurd hk (Nat.not_lt_zero _), ⟨f, h, h1, h2, fun k hk => absurd hk (Nat.not_lt_zero _)⟩, n_3.frame (hq9 _ (by omega)) (hq9 _ (by omega)), n_5.frame (hq9 _ (by omega)) (hq9 _ (by omega)), n_7.frame (hq9 _ (by omega)) (hq9 _ (by omega))⟩, hq9⟩) dX4_clear_11

set_option maxHeartbeats 4000000 in
set_option maxRecDepth 100000 in
/-- join -/
theorem c_X4_join (l : Launch) (E : wE) (A : Nat → Nat) (n sz : Nat) (g : Nat → va_E) (i hz : Nat) (ta tb : Nat → Nat) (a b : Nat) (hi : i + 8 < n) (hV : HapV E A g i hz ta tb) (hA1 : a ≤ b) (hA2 : 1 ≤ b) (hA3 : b ≤ 100) : Met l yX4_join wsX4_join ({ frames := 1, cells := 0, slots := 0, locals := 30 } : Room) (va_Pc [.ref (A (i)), .int (iI ((a : Int))), .int (iI ((b : Int)))] (wPre E A n sz g)) (va_Qi (fun r g' => (hz = 20 → r = iI (-8) ∧ g' = g) ∧ (hz < 20 → r = iI (hz : Int) ∧ HapV E A g' i (hz + 1) (va_up ta hz a) (va_up tb hz b) ∧ ∀ j, (j < i ∨ i + 2 < j) → g' j = g j)) (wAt E A n) (wF A n sz)) 0 0 (wF A n sz) := by
  refine x_met (cc := cX4_join) (maxL := 3) (ret := (some .int)) [.ref (A (i)), .int (iI ((a : Int))), .int (iI ((b : Int)))] (by decide) rfl (Nat.le_of_ble_eq_true rfl) ?_
  intro p e s m below meth c ls X hr hlk hnm hsz hW hl
  have hl : lv_has ls 3 [(0, .ref (A (i))), (1, .int (iI ((a : Int)))), (2, .int (iI ((b : Int))))] := hl
  have lk_0 : ∀ w ∈ wsX40, w ∈ wsX4_join := by decide +kernel
  have lk_1 : Cond.fieldLink RX4 18 (TX4 2).1 (TX4 2).2.1 (TX4 2).2.2.1 ∈ wsX4_join := by decide +kernel
  have lk_2 : Cond.fieldLink RX4 9 (TX4 0).1 (TX4 0).2.1 (TX4 0).2.2.1 ∈ wsX4_join := by decide +kernel
  have lk_3 : Cond.fieldLink RX4 15 (TX4 1).1 (TX4 1).2.1 (TX4 1).2.2.1 ∈ wsX4_join := by decide +kernel
  have hVg := hV
  obtain ⟨h0, hz20, hab, ⟨f, h, h1, h2, hf⟩, n_3, n_5, n_7⟩ := hV
  refine lv_aload_n X.1 X.2.1 dX4_join_0 rfl (lv_at hl 0 rfl) ?_
  refine x_get (C := RX4) (T := TX4) (N := 6) X hW (by omega) h0 rfl lk_0 2 (by decide) lk_1 rfl dX4_join_1 ?_
  refine x_bipush X (by decide) dX4_join_4 ?_
  refine x_icmp_lt (tgt := 12) X ⟨by omega, by omega⟩ ⟨by decide, by decide⟩ dX4_join_6 (by decide) (fun b_6 => ?_) (fun b_6 => ?_)
  · refine lv_aload_n X.1 X.2.1 dX4_join_12 rfl (lv_at hl 0 rfl) ?_
    refine x_get (C := RX4) (T := TX4) (N := 6) X hW (by omega) h0 rfl lk_0 0 (by decide) lk_2 rfl dX4_join_13 ?_
    refine lv_aload_n X.1 X.2.1 dX4_join_16 rfl (lv_at hl 0 rfl) ?_
    refine x_get (C := RX4) (T := TX4) (N := 6) X hW (by omega) h0 rfl lk_0 2 (by decide) lk_1 rfl dX4_join_17 ?_
    refine lv_iload_n X.1 X.2.1 dX4_join_20 rfl (lv_at hl 1 rfl) ?_
    refine x_iast X hW (by omega) h1 hz (by omega) (by omega) (by decide) dX4_join_21 (fun g_21 H locs hg_21 hW => ?_)
    have h0 : g_21 i = .inr (4, [.ref (A (i + 1)), .ref (A (i + 2)), .int (iI ((hz : Int))), .ref (A (i + 3)), .ref (A (i + 5)), .ref (A (i + 7))]) := by rw [hg_21, va_up_ne _ _ (by omega)]; exact h0
    have h2 : g_21 (i + 2) = aI E 20 h := by rw [hg_21, va_up_ne _ _ (by omega)]; exact h2
    have h1 : g_21 (i + 1) = aI E 20 (upd f hz (iI ((a : Int)))) := by rw [hg_21]; exact va_up_self _ _ _
    refine lv_aload_n X.1 X.2.1 dX4_join_22 rfl (lv_at hl 0 rfl) ?_
    refine x_get (C := RX4) (T := TX4) (N := 6) X hW (by omega) h0 rfl lk_0 1 (by decide) lk_3 rfl dX4_join_23 ?_
    refine lv_aload_n X.1 X.2.1 dX4_join_26 rfl (lv_at hl 0 rfl) ?_
    refine x_get (C := RX4) (T := TX4) (N := 6) X hW (by omega) h0 rfl lk_0 2 (by decide) lk_1 rfl dX4_join_27 ?_
    refine lv_iload_n X.1 X.2.1 dX4_join_30 rfl (lv_at hl 2 rfl) ?_
    refine x_iast X hW (by omega) h2 hz (by omega) (by omega) (by decide) dX4_join_31 (fun g_31 H locs hg_31 hW => ?_)
    have h0 : g_31 i = .inr (4, [.ref (A (i + 1)), .ref (A (i + 2)), .int (iI ((hz : Int))), .ref (A (i + 3)), .ref (A (i + 5)), .ref (A (i + 7))]) := by rw [hg_31, va_up_ne _ _ (by omega)]; exact h0
    have h1 : g_31 (i + 1) = aI E 20 (upd f hz (iI ((a : Int)))) := by rw [hg_31, va_up_ne _ _ (by omega)]; exact h1
    have h2 : g_31 (i + 2) = aI E 20 (upd h hz (iI ((b : Int)))) := by rw [hg_31]; exact va_up_self _ _ _
    refine lv_aload_n X.1 X.2.1 dX4_join_32 rfl (lv_at hl 0 rfl) ?_
    refine lv_dup X.1 X.2.1 dX4_join_33 rfl ?_
    refine x_get (C := RX4) (T := TX4) (N := 6) X hW (by omega) h0 rfl lk_0 2 (by decide) lk_1 rfl dX4_join_34 ?_
    refine x_iconst X dX4_join_37 ?_
    refine x_iadd X dX4_join_38 ?_
    refine x_seti (((hz + 1 : Nat) : Int)) (by omega) ?_
    refine x_put (C := RX4) (T := TX4) (N := 6) X hW (by omega) h0 rfl lk_0 tyX4 tyX4_ok nmX4 2 (by decide) lk_1 rfl rfl rfl (Nat.le_of_ble_eq_true rfl) dX4_join_39 (fun g_39 H locs hg_39 hW => ?_)
    have h1 : g_39 (i + 1) = aI E 20 (upd f hz (iI ((a : Int)))) := by rw [hg_39, va_up_ne _ _ (by omega)]; exact h1
    have h2 : g_39 (i + 2) = aI E 20 (upd h hz (iI ((b : Int)))) := by rw [hg_39, va_up_ne _ _ (by omega)]; exact h2
    have h0 : g_39 i = .inr (4, [.ref (A (i + 1)), .ref (A (i + 2)), .int (iI (((hz + 1 : Nat) : Int))), .ref (A (i + 3)), .ref (A (i + 5)), .ref (A (i + 7))]) := by rw [hg_39]; exact va_up_self _ _ _
    have hq9 : ∀ j, (j < i ∨ i + 2 < j) → g_39 j = g j := fun j hj => by rw [hg_39, va_up_ne _ _ (by omega), hg_31, va_up_ne _ _ (by omega), hg_21, va_up_ne _ _ (by omega)]
    refine lv_aload_n X.1 X.2.1 dX4_join_42 rfl (lv_at hl 0 rfl) ?_
    refine x_get (C := RX4) (T := TX4) (N := 6) X hW (by omega) h0 rfl lk_0 2 (by decide) lk_1 rfl dX4_join_43 ?_
    refine x_iconst X dX4_join_46 ?_
    refine x_isub X dX4_join_47 ?_
    refine x_seti ((hz : Int)) (by omega) ?_
    exact x_iret X hr hlk hW (⟨fun h9 => absurd b_6 (by omega), fun _ => ⟨rfl, ⟨h0, by omega, fun k hk => by
        by_cases e : k = hz
        · rw [e, va_up_self, va_up_self]; exact ⟨hA1, hA2, hA3⟩
        · rw [va_up_ne _ _ e, va_up_ne _ _ e]; exact hab k (by omega), ⟨_, _, h1, h2, fun k hk => by
        by_cases e : k = hz
        · rw [e, pk_us, pk_us, va_up_self, va_up_self]; exact ⟨rfl, rfl⟩
        · rw [pk_un e, pk_un e, va_up_ne _ _ e, va_up_ne _ _ e]; exact hf k (by omega)⟩, n_3.frame (hq9 _ (by omega)) (hq9 _ (by omega)), n_5.frame (hq9 _ (by omega)) (hq9 _ (by omega)), n_7.frame (hq9 _ (by omega)) (hq9 _ (by omega))⟩, hq9⟩⟩) dX4_join_48
  · refine x_bipush X (by decide) dX4_join_9 ?_
    exact x_iret X hr hlk hW (⟨fun _ => ⟨rfl, rfl⟩, fun h9 => absurd b_6 (by omega)⟩) dX4_join_11

set_option maxHeartbeats 4000000 in
set_option maxRecDepth 100000 in
/-- startAt -/
theorem c_X4_startAt (l : Launch) (E : wE) (A : Nat → Nat) (n sz : Nat) (g : Nat → va_E) (i hz : Nat) (ta tb : Nat → Nat) (k wv qv mv : Nat) (hi : i + 8 < n) (hV : HapV E A g i hz ta tb) (hk : k < hz) (w_3 : NatV E A g (i + 3) wv) (w_5 : NatV E A g (i + 5) qv) (w_7 : NatV E A g (i + 7) mv) (hc1 : wv + qv ≤ 10 ^ 40) (hc2 : mv ≤ 10 ^ 40) : Met l yX4_startAt wsX4_startAt ({ frames := 2, cells := 0, slots := 0, locals := 80 } : Room) (va_Pc [.ref (A (i)), .int (iI ((k : Int)))] (wPre E A n sz g)) (va_Qv (fun g' => NatV E A g' (i + 3) (wv * (tb k - ta k) + qv * ta k) ∧ NatV E A g' (i + 5) (qv * (tb k - ta k)) ∧ NatV E A g' (i + 7) (mv * tb k) ∧ ∀ j, (j ≠ i + 4 ∧ j ≠ i + 6 ∧ j ≠ i + 8) → g' j = g j) (wAt E A n) (wF A n sz)) 0 0 (wF A n sz) := by
  refine x_met (cc := cX4_startAt) (maxL := 3) (ret := none) [.ref (A (i)), .int (iI ((k : Int)))] (by decide) rfl (Nat.le_of_ble_eq_true rfl) ?_
  intro p e s m below meth c ls X hr hlk hnm hsz hW hl
  have hl : lv_has ls 3 [(0, .ref (A (i))), (1, .int (iI ((k : Int))))] := hl
  have lk_0 : ∀ w ∈ wsX40, w ∈ wsX4_startAt := by decide +kernel
  have lk_1 : Cond.fieldLink RX4 15 (TX4 1).1 (TX4 1).2.1 (TX4 1).2.2.1 ∈ wsX4_startAt := by decide +kernel
  have lk_2 : Cond.fieldLink RX4 9 (TX4 0).1 (TX4 0).2.1 (TX4 0).2.2.1 ∈ wsX4_startAt := by decide +kernel
  have lk_3 : Cond.fieldLink RX4 25 (TX4 3).1 (TX4 3).2.1 (TX4 3).2.2.1 ∈ wsX4_startAt := by decide +kernel
  have lk_4 : Cond.fieldLink RX4 29 (TX4 4).1 (TX4 4).2.1 (TX4 4).2.2.1 ∈ wsX4_startAt := by decide +kernel
  have lk_5 : Cond.fieldLink RX4 32 (TX4 5).1 (TX4 5).2.1 (TX4 5).2.2.1 ∈ wsX4_startAt := by decide +kernel
  have hVg := hV
  obtain ⟨h0, hz20, hab, ⟨f, h, h1, h2, hf⟩, n_3, n_5, n_7⟩ := hV
  have n_3 := w_3
  have n_5 := w_5
  have n_7 := w_7
  have ha := hab k hk
  have hc := hf k hk
  have hfr : ∀ j, (j ≠ i + 4 ∧ j ≠ i + 6 ∧ j ≠ i + 8) → g j = g j := fun _ _ => rfl
  have p1 : wv * (tb k - ta k) ≤ wv * 100 := Nat.mul_le_mul_left _ (by omega)
  have p2 : qv * ta k ≤ qv * 100 := Nat.mul_le_mul_left _ (by omega)
  have p3 : qv * (tb k - ta k) ≤ qv * 100 := Nat.mul_le_mul_left _ (by omega)
  have p4 : mv * tb k ≤ mv * 100 := Nat.mul_le_mul_left _ (by omega)
  refine lv_aload_n X.1 X.2.1 dX4_startAt_0 rfl (lv_at hl 0 rfl) ?_
  refine x_get (C := RX4) (T := TX4) (N := 6) X hW (by omega) h0 rfl lk_0 1 (by decide) lk_1 rfl dX4_startAt_1 ?_
  refine lv_iload_n X.1 X.2.1 dX4_startAt_4 rfl (lv_at hl 1 rfl) ?_
  refine x_iald X hW (by omega) h2 (v := iI (((tb k : Nat) : Int))) k (by omega) (by omega) (by decide) hc.2 dX4_startAt_5 ?_
  refine lv_aload_n X.1 X.2.1 dX4_startAt_6 rfl (lv_at hl 0 rfl) ?_
  refine x_get (C := RX4) (T := TX4) (N := 6) X hW (by omega) h0 rfl lk_0 0 (by decide) lk_2 rfl dX4_startAt_7 ?_
  refine lv_iload_n X.1 X.2.1 dX4_startAt_10 rfl (lv_at hl 1 rfl) ?_
  refine x_iald X hW (by omega) h1 (v := iI (((ta k : Nat) : Int))) k (by omega) (by omega) (by decide) hc.1 dX4_startAt_11 ?_
  refine x_isub X dX4_startAt_12 ?_
  refine x_seti ((((tb k - ta k) : Nat) : Int)) (by omega) ?_
  refine lv_istore_n (lv' := [(2, .int (iI ((((tb k - ta k) : Nat) : Int)))), (0, .ref (A (i))), (1, .int (iI ((k : Int))))]) X.1 X.2.1 dX4_startAt_13 rfl hl (by decide) rfl (fun ls hl => ?_)
  refine lv_aload_n X.1 X.2.1 dX4_startAt_14 rfl (lv_at hl 1 rfl) ?_
  refine x_get (C := RX4) (T := TX4) (N := 6) X hW (by omega) h0 rfl lk_0 3 (by decide) lk_3 rfl dX4_startAt_15 ?_
  refine lv_iload_n X.1 X.2.1 dX4_startAt_18 rfl (lv_at hl 0 rfl) ?_
  refine x_i2l X ⟨by omega, by omega⟩ dX4_startAt_19 ?_
  refine x_cv (x_runV (k := 1) (As := [.long (lI ((((tb k - ta k) : Nat) : Int)))]) (rest := []) X hW (c_X5_times l E A n _ g (i + 3) wv (tb k - ta k) (by omega) n_3 (by omega) (by omega)) (by omega) n_3.2.1 rfl gX4_startAt_X5_times rfl rfl rfl (by decide +kernel) ⟨by decide, by decide⟩ rfl hl.1 rfl (Nat.le_of_ble_eq_true rfl) dX4_startAt_20 ⟨Nat.zero_le _, Nat.zero_le _⟩) hW (fun g_20 H locs hp_20 hW => ?_)
  obtain ⟨nv_20, hf_20⟩ := hp_20
  have h0 : g_20 i = .inr (4, [.ref (A (i + 1)), .ref (A (i + 2)), .int (iI ((hz : Int))), .ref (A (i + 3)), .ref (A (i + 5)), .ref (A (i + 7))]) := by rw [hf_20 _ (by omega)]; exact h0
  have h1 : g_20 (i + 1) = aI E 20 f := by rw [hf_20 _ (by omega)]; exact h1
  have h2 : g_20 (i + 2) = aI E 20 h := by rw [hf_20 _ (by omega)]; exact h2
  have n_5 : NatV E A g_20 (i + 5) qv := n_5.frame (hf_20 _ (by omega)) (hf_20 _ (by omega))
  have n_7 : NatV E A g_20 (i + 7) mv := n_7.frame (hf_20 _ (by omega)) (hf_20 _ (by omega))
  have n_3 : NatV E A g_20 (i + 3) (wv * (tb k - ta k)) := nv_20
  have hfr : ∀ j, (j ≠ i + 4 ∧ j ≠ i + 6 ∧ j ≠ i + 8) → g_20 j = g j := fun j hj => (hf_20 j (by omega)).trans (hfr j hj)
  refine lv_aload_n X.1 X.2.1 dX4_startAt_23 rfl (lv_at hl 1 rfl) ?_
  refine x_get (C := RX4) (T := TX4) (N := 6) X hW (by omega) h0 rfl lk_0 3 (by decide) lk_3 rfl dX4_startAt_24 ?_
  refine lv_aload_n X.1 X.2.1 dX4_startAt_27 rfl (lv_at hl 1 rfl) ?_
  refine x_get (C := RX4) (T := TX4) (N := 6) X hW (by omega) h0 rfl lk_0 4 (by decide) lk_4 rfl dX4_startAt_28 ?_
  refine lv_aload_n X.1 X.2.1 dX4_startAt_31 rfl (lv_at hl 1 rfl) ?_
  refine x_get (C := RX4) (T := TX4) (N := 6) X hW (by omega) h0 rfl lk_0 0 (by decide) lk_2 rfl dX4_startAt_32 ?_
  refine lv_iload_n X.1 X.2.1 dX4_startAt_35 rfl (lv_at hl 2 rfl) ?_
  refine x_iald X hW (by omega) h1 (v := iI (((ta k : Nat) : Int))) k (by omega) (by omega) (by decide) hc.1 dX4_startAt_36 ?_
  refine x_i2l X ⟨by omega, by omega⟩ dX4_startAt_37 ?_
  refine x_cv (x_runV (k := 2) (As := [.ref (A (i + 5)), .long (lI (((ta k : Nat) : Int)))]) (rest := []) X hW (c_X5_addTimes l E A n _ g_20 (i + 3) (i + 5) (wv * (tb k - ta k)) qv (ta k) (by omega) (by omega) (by omega) (by omega) (by omega) n_3 n_5 (by omega) (by omega)) (by omega) n_3.2.1 rfl gX4_startAt_X5_addTimes rfl rfl rfl (by decide +kernel) ⟨by decide, by decide⟩ rfl hl.1 rfl (Nat.le_of_ble_eq_true rfl) dX4_startAt_38 ⟨Nat.zero_le _, Nat.zero_le _⟩) hW (fun g_38 H locs hp_38 hW => ?_)
  obtain ⟨nv_38, hf_38⟩ := hp_38
  have h0 : g_38 i = .inr (4, [.ref (A (i + 1)), .ref (A (i + 2)), .int (iI ((hz : Int))), .ref (A (i + 3)), .ref (A (i + 5)), .ref (A (i + 7))]) := by rw [hf_38 _ (by omega)]; exact h0
  have h1 : g_38 (i + 1) = aI E 20 f := by rw [hf_38 _ (by omega)]; exact h1
  have h2 : g_38 (i + 2) = aI E 20 h := by rw [hf_38 _ (by omega)]; exact h2
  have n_5 : NatV E A g_38 (i + 5) qv := n_5.frame (hf_38 _ (by omega)) (hf_38 _ (by omega))
  have n_7 : NatV E A g_38 (i + 7) mv := n_7.frame (hf_38 _ (by omega)) (hf_38 _ (by omega))
  have n_3 : NatV E A g_38 (i + 3) (wv * (tb k - ta k) + qv * ta k) := nv_38
  have hfr : ∀ j, (j ≠ i + 4 ∧ j ≠ i + 6 ∧ j ≠ i + 8) → g_38 j = g j := fun j hj => (hf_38 j (by omega)).trans (hfr j hj)
  refine lv_aload_n X.1 X.2.1 dX4_startAt_41 rfl (lv_at hl 1 rfl) ?_
  refine x_get (C := RX4) (T := TX4) (N := 6) X hW (by omega) h0 rfl lk_0 4 (by decide) lk_4 rfl dX4_startAt_42 ?_
  refine lv_iload_n X.1 X.2.1 dX4_startAt_45 rfl (lv_at hl 0 rfl) ?_
  refine x_i2l X ⟨by omega, by omega⟩ dX4_startAt_46 ?_
  refine x_cv (x_runV (k := 1) (As := [.long (lI ((((tb k - ta k) : Nat) : Int)))]) (rest := []) X hW (c_X5_times l E A n _ g_38 (i + 5) qv (tb k - ta k) (by omega) n_5 (by omega) (by omega)) (by omega) n_5.2.1 rfl gX4_startAt_X5_times rfl rfl rfl (by decide +kernel) ⟨by decide, by decide⟩ rfl hl.1 rfl (Nat.le_of_ble_eq_true rfl) dX4_startAt_47 ⟨Nat.zero_le _, Nat.zero_le _⟩) hW (fun g_47 H locs hp_47 hW => ?_)
  obtain ⟨nv_47, hf_47⟩ := hp_47
  have h0 : g_47 i = .inr (4, [.ref (A (i + 1)), .ref (A (i + 2)), .int (iI ((hz : Int))), .ref (A (i + 3)), .ref (A (i + 5)), .ref (A (i + 7))]) := by rw [hf_47 _ (by omega)]; exact h0
  have h1 : g_47 (i + 1) = aI E 20 f := by rw [hf_47 _ (by omega)]; exact h1
  have h2 : g_47 (i + 2) = aI E 20 h := by rw [hf_47 _ (by omega)]; exact h2
  have n_3 : NatV E A g_47 (i + 3) (wv * (tb k - ta k) + qv * ta k) := n_3.frame (hf_47 _ (by omega)) (hf_47 _ (by omega))
  have n_7 : NatV E A g_47 (i + 7) mv := n_7.frame (hf_47 _ (by omega)) (hf_47 _ (by omega))
  have n_5 : NatV E A g_47 (i + 5) (qv * (tb k - ta k)) := nv_47
  have hfr : ∀ j, (j ≠ i + 4 ∧ j ≠ i + 6 ∧ j ≠ i + 8) → g_47 j = g j := fun j hj => (hf_47 j (by omega)).trans (hfr j hj)
  refine lv_aload_n X.1 X.2.1 dX4_startAt_50 rfl (lv_at hl 1 rfl) ?_
  refine x_get (C := RX4) (T := TX4) (N := 6) X hW (by omega) h0 rfl lk_0 5 (by decide) lk_5 rfl dX4_startAt_51 ?_
  refine lv_aload_n X.1 X.2.1 dX4_startAt_54 rfl (lv_at hl 1 rfl) ?_
  refine x_get (C := RX4) (T := TX4) (N := 6) X hW (by omega) h0 rfl lk_0 1 (by decide) lk_1 rfl dX4_startAt_55 ?_
  refine lv_iload_n X.1 X.2.1 dX4_startAt_58 rfl (lv_at hl 2 rfl) ?_
  refine x_iald X hW (by omega) h2 (v := iI (((tb k : Nat) : Int))) k (by omega) (by omega) (by decide) hc.2 dX4_startAt_59 ?_
  refine x_i2l X ⟨by omega, by omega⟩ dX4_startAt_60 ?_
  refine x_cv (x_runV (k := 1) (As := [.long (lI (((tb k : Nat) : Int)))]) (rest := []) X hW (c_X5_times l E A n _ g_47 (i + 7) mv (tb k) (by omega) n_7 (by omega) (by omega)) (by omega) n_7.2.1 rfl gX4_startAt_X5_times rfl rfl rfl (by decide +kernel) ⟨by decide, by decide⟩ rfl hl.1 rfl (Nat.le_of_ble_eq_true rfl) dX4_startAt_61 ⟨Nat.zero_le _, Nat.zero_le _⟩) hW (fun g_61 H locs hp_61 hW => ?_)
  obtain ⟨nv_61, hf_61⟩ := hp_61
  have h0 : g_61 i = .inr (4, [.ref (A (i + 1)), .ref (A (i + 2)), .int (iI ((hz : Int))), .ref (A (i + 3)), .ref (A (i + 5)), .ref (A (i + 7))]) := by rw [hf_61 _ (by omega)]; exact h0
  have h1 : g_61 (i + 1) = aI E 20 f := by rw [hf_61 _ (by omega)]; exact h1
  have h2 : g_61 (i + 2) = aI E 20 h := by rw [hf_61 _ (by omega)]; exact h2
  have n_3 : NatV E A g_61 (i + 3) (wv * (tb k - ta k) + qv * ta k) := n_3.frame (hf_61 _ (by omega)) (hf_61 _ (by omega))
  have n_5 : NatV E A g_61 (i + 5) (qv * (tb k - ta k)) := n_5.frame (hf_61 _ (by omega)) (hf_61 _ (by omega))
  have n_7 : NatV E A g_61 (i + 7) (mv * tb k) := nv_61
  have hfr : ∀ j, (j ≠ i + 4 ∧ j ≠ i + 6 ∧ j ≠ i + 8) → g_61 j = g j := fun j hj => (hf_61 j (by omega)).trans (hfr j hj)
  exact x_vret X hr hlk hW (⟨n_3, n_5, n_7, hfr⟩) dX4_startAt_64
