theorem unS_in {j : Nat} {yv : Nat → Nat} {s : Nat} (h1 : 1 ≤ s) (h2 : s ≤ j) : unS j yv s = yv s * (j + 1 - s) + yv (s + 1) * s := if_pos ⟨h1, h2⟩

set_option maxHeartbeats 4000000 in
set_option maxRecDepth 100000 in
/-- unseeNext -/
theorem c_X7_unseeNext (l : Launch) (E : wE) (A : Nat → Nat) (n sz : Nat) (g : Nat → va_E) (i : Nat) (fy : Nat → Option Nat) (jj : Nat) (yv : Nat → Nat) (hi : i + 48 < n) (hC : RkC E A g i fy) (hj1 : 1 ≤ jj) (hj2 : jj ≤ 19) (hY : ∀ y, 1 ≤ y → y ≤ jj + 1 → NatV E A g (i + 7 + 2 * y) (yv y)) (hXY : ∀ y, y < 21 → NatX E A g (i + 7 + 2 * y)) (hyc : ∀ s, 1 ≤ s → s ≤ jj + 1 → yv s ≤ 10 ^ 45) : Met l yX7_unseeNext wsX7_unseeNext ({ frames := 2, cells := 0, slots := 0, locals := 100 } : Room) (va_Pc [.ref (A (i)), .int (iI ((jj : Int)))] (wPre E A n sz g)) (va_Qv (fun g' => (∀ y, 1 ≤ y → y ≤ jj + 1 → NatV E A g' (i + 7 + 2 * y) (unS jj yv y)) ∧ (∀ y, y < 21 → NatX E A g' (i + 7 + 2 * y)) ∧ ∀ j, (j < i + 7 ∨ i + 48 < j) → g' j = g j) (wAt E A n) (wF A n sz)) 0 0 (wF A n sz) := by
  refine x_met (cc := cX7_unseeNext) (maxL := 3) (ret := none) [.ref (A (i)), .int (iI ((jj : Int)))] (by decide) rfl (Nat.le_of_ble_eq_true rfl) ?_
  intro p e s m below meth c ls X hr hlk hnm hsz hW hl
  have hl : lv_has ls 3 [(0, .ref (A (i))), (1, .int (iI ((jj : Int))))] := hl
  have lk_0 : Cond.methodLink RX7 59 Lib.Math.min.name ∈ wsX7_unseeNext := by decide +kernel
  have lk_1 : Cond.static Lib.Math.min.name ∈ wsX7_unseeNext := by decide +kernel
  have lk_2 : Cond.initialized "java/lang/Math" ∈ wsX7_unseeNext := by decide +kernel
  have lk_3 : Cond.code Lib.Math.min.name Lib.Math.min.code 2 (some .int) ∈ wsX7_unseeNext := by decide +kernel
  have lk_4 : ∀ w ∈ wsX70, w ∈ wsX7_unseeNext := by decide +kernel
  have lk_5 : Cond.fieldLink RX7 17 (TX7 1).1 (TX7 1).2.1 (TX7 1).2.2.1 ∈ wsX7_unseeNext := by decide +kernel
  obtain ⟨h0, h2, hfy⟩ := hC
  have h0g := h0
  have h2g := h2
  have hfr : ∀ j, (j < i + 7 ∨ i + 48 < j) → g j = g j := fun _ _ => rfl
  refine x_iconst X dX7_unseeNext_0 ?_
  refine x_seti (((1 : Nat) : Int)) rfl ?_
  refine lv_istore_n (lv' := [(2, .int (iI (((1 : Nat) : Int)))), (0, .ref (A (i))), (1, .int (iI ((jj : Int))))]) X.1 X.2.1 dX7_unseeNext_1 rfl hl (by decide) rfl (fun ls hl => ?_)
  have loop_2 : ∀ (fuel : Nat) (q : Nat) (gw : Nat → va_E) (H : Heap) (locs : List Loc) (ls : Array Slot), (21 - q) < fuel → (1 ≤ q) → (q ≤ jj + 1) → (∀ y, 1 ≤ y → y ≤ jj + 1 → NatV E A gw (i + 7 + 2 * y) (if 1 ≤ y ∧ y < q then unS jj yv y else yv y)) → (∀ y, y < 21 → NatX E A gw (i + 7 + 2 * y)) → (∀ j, (j < i + 7 ∨ i + 48 < j) → gw j = g j) → wH E (wF A n sz) A n s gw H locs → lv_has ls 3 [(0, .ref (A (i))), (1, .int (iI ((jj : Int)))), (2, .int (iI ((q : Int))))] → W p l e ({ frames := 2, cells := 0, slots := 0, locals := 100 } : Room) s m [.ref (A (i)), .int (iI ((jj : Int)))].toArray below meth c H locs 0 0 (MQ below (va_Qv (fun g' => (∀ y, 1 ≤ y → y ≤ jj + 1 → NatV E A g' (i + 7 + 2 * y) (unS jj yv y)) ∧ (∀ y, y < 21 → NatX E A g' (i + 7 + 2 * y)) ∧ ∀ j, (j < i + 7 ∨ i + 48 < j) → g' j = g j) (wAt E A n) (wF A n sz)) [.ref (A (i)), .int (iI ((jj : Int)))].toArray s 0 0 (wF A n sz)) (F0 m 2 ls []) := by
    intro fuel
    induction fuel with
    | zero => intro q gw H locs ls hm; exact absurd hm (Nat.not_lt_zero _)
    | succ fuel ih_2 =>
      intro q gw H locs ls hm hq1 hqj hY hXY hfr hW hl
      have h0 : gw i = .inr (7, [.ref (A (i + 1)), .ref (A (i + 2)), .ref (A (i + 3)), .ref (A (i + 5))]) := (hfr _ (by omega)).trans h0g
      have h2 : gw (i + 2) = aR E 3 21 fy := (hfr _ (by omega)).trans h2g
      refine lv_iload_n X.1 X.2.1 dX7_unseeNext_2 rfl (lv_at hl 2 rfl) ?_
      refine lv_iload_n X.1 X.2.1 dX7_unseeNext_3 rfl (lv_at hl 1 rfl) ?_
      refine x_bipush X (by decide) dX7_unseeNext_4 ?_
      refine x_mmini X hl.1 ⟨by omega, by omega⟩ ⟨by decide, by decide⟩ lk_0 lk_1 lk_2 lk_3 (by decide) (Nat.le_of_ble_eq_true rfl) (Nat.zero_le _) (Nat.zero_le _) dX7_unseeNext_6 ?_
      refine x_icmp_gt (tgt := 52) X ⟨by omega, by omega⟩ ⟨by split <;> omega, by split <;> omega⟩ dX7_unseeNext_9 (by decide) (fun b_9 => ?_) (fun b_9 => ?_)
      · have hqe : q = jj + 1 := by
          split at b_9 <;> omega
        exact x_vret X hr hlk hW (⟨fun y hy0 hy => by
        have q9 := hY y hy0 hy
        rw [hqe] at q9
        by_cases e8 : 1 ≤ y ∧ y < jj + 1
        · rw [if_pos e8] at q9; exact q9
        · rw [if_neg e8] at q9; unfold unS; rw [if_neg (by omega)]; exact q9, hXY, hfr⟩) dX7_unseeNext_52
      · have hql : q ≤ jj := Decidable.byContradiction (fun z9 => b_9 (by split <;> omega))
        have hc1 := hyc q (by omega) (by omega)
        have hc2 := hyc (q + 1) (by omega) (by omega)
        have hm1 : yv q * (jj + 1 - q) ≤ 10 ^ 45 * 20 := Nat.mul_le_mul hc1 (by omega)
        have hm2 : yv (q + 1) * q ≤ 10 ^ 45 * 20 := Nat.mul_le_mul hc2 (by omega)
        refine lv_aload_n X.1 X.2.1 dX7_unseeNext_12 rfl (lv_at hl 0 rfl) ?_
        refine x_get (C := RX7) (T := TX7) (N := 4) X hW (by omega) h0 rfl lk_4 1 (by decide) lk_5 rfl dX7_unseeNext_13 ?_
        refine lv_iload_n X.1 X.2.1 dX7_unseeNext_16 rfl (lv_at hl 2 rfl) ?_
        refine x_aald X hW (by omega) h2 rfl (j := i + 7 + 2 * q) q (by omega) (by omega) (by decide) (hfy q (by omega)) dX7_unseeNext_17 ?_
        refine lv_iload_n X.1 X.2.1 dX7_unseeNext_18 rfl (lv_at hl 1 rfl) ?_
        refine x_iconst X dX7_unseeNext_19 ?_
        refine x_iadd X dX7_unseeNext_20 ?_
        refine lv_iload_n X.1 X.2.1 dX7_unseeNext_21 rfl (lv_at hl 2 rfl) ?_
        refine x_isub X dX7_unseeNext_22 ?_
        refine x_seti (((jj + 1 - q : Nat) : Int)) (by omega) ?_
        refine x_i2l X ⟨by omega, by omega⟩ dX7_unseeNext_23 ?_
        have nQ : NatV E A gw (i + 7 + 2 * q) (yv q) := by have q9 := hY q (by omega) (by omega); rw [if_neg (by omega)] at q9; exact q9
        refine x_cv (x_runV (k := 1) (As := [.long (lI (((jj + 1 - q : Nat) : Int)))]) (rest := []) X hW (c_X5_times l E A n _ gw (i + 7 + 2 * q) (yv q) (jj + 1 - q) (by omega) nQ (by omega) (by omega)) (by omega) nQ.2.1 rfl gX7_unseeNext_X5_times rfl rfl rfl (by decide +kernel) ⟨by decide, by decide⟩ rfl hl.1 rfl (Nat.le_of_ble_eq_true rfl) dX7_unseeNext_24 ⟨Nat.zero_le _, Nat.zero_le _⟩) hW (fun g_24 H locs hp_24 hW => ?_)
        obtain ⟨nQ, hf_24⟩ := hp_24
        have h0 : g_24 i = .inr (7, [.ref (A (i + 1)), .ref (A (i + 2)), .ref (A (i + 3)), .ref (A (i + 5))]) := by rw [hf_24 _ (by omega)]; exact h0
        have h2 : g_24 (i + 2) = aR E 3 21 fy := by rw [hf_24 _ (by omega)]; exact h2
        have hfr : ∀ j, (j < i + 7 ∨ i + 48 < j) → g_24 j = g j := fun j hj => (hf_24 j (by omega)).trans (hfr j hj)
        refine lv_aload_n X.1 X.2.1 dX7_unseeNext_27 rfl (lv_at hl 0 rfl) ?_
        refine x_get (C := RX7) (T := TX7) (N := 4) X hW (by omega) h0 rfl lk_4 1 (by decide) lk_5 rfl dX7_unseeNext_28 ?_
        refine lv_iload_n X.1 X.2.1 dX7_unseeNext_31 rfl (lv_at hl 2 rfl) ?_
        refine x_aald X hW (by omega) h2 rfl (j := i + 7 + 2 * q) q (by omega) (by omega) (by decide) (hfy q (by omega)) dX7_unseeNext_32 ?_
        refine lv_aload_n X.1 X.2.1 dX7_unseeNext_33 rfl (lv_at hl 0 rfl) ?_
        refine x_get (C := RX7) (T := TX7) (N := 4) X hW (by omega) h0 rfl lk_4 1 (by decide) lk_5 rfl dX7_unseeNext_34 ?_
        refine lv_iload_n X.1 X.2.1 dX7_unseeNext_37 rfl (lv_at hl 2 rfl) ?_
        refine x_iconst X dX7_unseeNext_38 ?_
        refine x_iadd X dX7_unseeNext_39 ?_
        refine x_aald X hW (by omega) h2 rfl (j := i + 7 + 2 * (q + 1)) (q + 1) (by omega) (by omega) (by decide) (hfy (q + 1) (by omega)) dX7_unseeNext_40 ?_
        refine lv_iload_n X.1 X.2.1 dX7_unseeNext_41 rfl (lv_at hl 2 rfl) ?_
        refine x_i2l X ⟨by omega, by omega⟩ dX7_unseeNext_42 ?_
        have nZ : NatV E A g_24 (i + 7 + 2 * (q + 1)) (yv (q + 1)) := by have q9 := (hY (q + 1) (by omega) (by omega)).frame (hf_24 _ (by omega)) (hf_24 _ (by omega)); rw [if_neg (by omega)] at q9; exact q9
        refine x_cv (x_runV (k := 2) (As := [.ref (A (i + 7 + 2 * (q + 1))), .long (lI ((q : Int)))]) (rest := []) X hW (c_X5_addTimes l E A n _ g_24 (i + 7 + 2 * q) (i + 7 + 2 * (q + 1)) (yv q * (jj + 1 - q)) (yv (q + 1)) q (by omega) (by omega) (by omega) (by omega) (by omega) nQ nZ (by omega) (by omega)) (by omega) nQ.2.1 rfl gX7_unseeNext_X5_addTimes rfl rfl rfl (by decide +kernel) ⟨by decide, by decide⟩ rfl hl.1 rfl (Nat.le_of_ble_eq_true rfl) dX7_unseeNext_43 ⟨Nat.zero_le _, Nat.zero_le _⟩) hW (fun g_43 H locs hp_43 hW => ?_)
        obtain ⟨nQ, hf_43⟩ := hp_43
        rw [← unS_in (yv := yv) hq1 hql] at nQ
        have h0 : g_43 i = .inr (7, [.ref (A (i + 1)), .ref (A (i + 2)), .ref (A (i + 3)), .ref (A (i + 5))]) := by rw [hf_43 _ (by omega)]; exact h0
        have h2 : g_43 (i + 2) = aR E 3 21 fy := by rw [hf_43 _ (by omega)]; exact h2
        have hY : ∀ y, 1 ≤ y → y ≤ jj + 1 → NatV E A g_43 (i + 7 + 2 * y) (if 1 ≤ y ∧ y < q + 1 then unS jj yv y else yv y) := fun y hy0 hy => by
          by_cases e9 : y = q
          · rw [e9, if_pos ⟨by omega, by omega⟩]; exact nQ
          · have q9 := ((hY y hy0 hy).frame (hf_24 _ (by omega)) (hf_24 _ (by omega))).frame (hf_43 _ (by omega)) (hf_43 _ (by omega))
            by_cases e8 : 1 ≤ y ∧ y < q
            · rw [if_pos e8] at q9; rw [if_pos ⟨e8.1, by omega⟩]; exact q9
            · rw [if_neg e8] at q9; rw [if_neg (by omega)]; exact q9
        have hXY : ∀ y, y < 21 → NatX E A g_43 (i + 7 + 2 * y) := fun y hy => if e9 : y = q then (by rw [e9]; exact nQ.any) else ((hXY y hy).frame (hf_24 _ (by omega)) (hf_24 _ (by omega))).frame (hf_43 _ (by omega)) (hf_43 _ (by omega))
        have hfr : ∀ j, (j < i + 7 ∨ i + 48 < j) → g_43 j = g j := fun j hj => (hf_43 j (by omega)).trans (hfr j hj)
        refine lv_iinc (v := iI (((q + 1 : Nat) : Int))) (lv' := [(2, .int (iI (((q + 1 : Nat) : Int)))), (0, .ref (A (i))), (1, .int (iI ((jj : Int))))]) X.1 X.2.1 dX7_unseeNext_46 hl (k := 2) rfl (by rw [show (Int32.ofInt (1)) = iI (1) from rfl, iI_add]; rfl) (by decide) rfl (fun ls hl => ?_)
        refine lv_goto (tgt := 2) X.1 X.2.1 dX7_unseeNext_49 (by decide) ?_
        exact ih_2 (q + 1) g_43 _ _ _ (by omega) (by omega) (by omega) hY hXY hfr hW (lv_sub hl [1, 2, 0] rfl)
  exact loop_2 _ 1 g _ _ _ (Nat.lt_succ_self _) (Nat.le_refl _) (by omega) (fun y hy0 hy => by rw [if_neg (by omega)]; exact hY y hy0 hy) hXY hfr hW (lv_sub hl [1, 2, 0] rfl)

set_option maxHeartbeats 4000000 in
set_option maxRecDepth 100000 in
/-- setPay -/
theorem c_X7_setPay (l : Launch) (E : wE) (A : Nat → Nat) (n sz : Nat) (g : Nat → va_E) (i : Nat) (fy : Nat → Option Nat) (fp : Nat → Int32) (t b : Nat) (hi : i + 48 < n) (hC : RkC E A g i fy) (h1 : g (i + 1) = aI E 21 fp) (ht1 : 1 ≤ t) (ht2 : t ≤ 20) : Met l yX7_setPay wsX7_setPay ({ frames := 2, cells := 0, slots := 0, locals := 60 } : Room) (va_Pc [.ref (A (i)), .int (iI ((t : Int))), .int (iI ((b : Int)))] (wPre E A n sz g)) (va_Qv (fun g' => g' (i + 1) = aI E 21 (upd fp t (iI (b : Int))) ∧ ∀ j, j ≠ i + 1 → g' j = g j) (wAt E A n) (wF A n sz)) 0 0 (wF A n sz) := by
  refine x_met (cc := cX7_setPay) (maxL := 3) (ret := none) [.ref (A (i)), .int (iI ((t : Int))), .int (iI ((b : Int)))] (by decide) rfl (Nat.le_of_ble_eq_true rfl) ?_
  intro p e s m below meth c ls X hr hlk hnm hsz hW hl
  have hl : lv_has ls 3 [(0, .ref (A (i))), (1, .int (iI ((t : Int)))), (2, .int (iI ((b : Int))))] := hl
  have lk_0 : Cond.constantLong RX7 29 (20) ∈ wsX7_setPay := by decide +kernel
  have lk_1 : Cond.initialized yX10_isWithin.cls ∈ wsX7_setPay := by decide +kernel
  have lk_2 : Cond.static yX10_isWithin ∈ wsX7_setPay := by decide +kernel
  have lk_3 : ∀ w ∈ wsX70, w ∈ wsX7_setPay := by decide +kernel
  have lk_4 : Cond.fieldLink RX7 9 (TX7 0).1 (TX7 0).2.1 (TX7 0).2.2.1 ∈ wsX7_setPay := by decide +kernel
  obtain ⟨h0, h2, hfy⟩ := hC
  refine lv_iload_n X.1 X.2.1 dX7_setPay_0 rfl (lv_at hl 1 rfl) ?_
  refine x_i2l X ⟨by omega, by omega⟩ dX7_setPay_1 ?_
  refine x_lconst X 1 (by decide) dX7_setPay_2 ?_
  refine x_ldc2 X (20) (by decide) lk_0 dX7_setPay_3 ?_
  refine x_ci (x_runSN (k := 3) (As := [.long (lI ((t : Int))), .long (lI (1)), .long (lI (20))]) (rest := []) X hW (c_X10_isWithin l E A n _ g (t : Int) 1 20 ⟨by omega, by omega⟩ ⟨by decide, by decide⟩ ⟨by decide, by decide⟩) gX7_setPay_X10_isWithin_n31 rfl rfl rfl (by decide +kernel) lk_1 lk_2 (by decide +kernel) ⟨by decide, by decide⟩ rfl hl.1 rfl (Nat.le_of_ble_eq_true rfl) dX7_setPay_6 ⟨Nat.zero_le _, Nat.zero_le _⟩) hW (fun r_6 g_6 H locs hp_6 hW => ?_)
  obtain ⟨hr_6, he_6⟩ := hp_6
  rw [he_6] at hW
  subst hr_6
  refine x_if_eq (tgt := 19) X ⟨by split <;> decide, by split <;> decide⟩ dX7_setPay_9 (by decide) (fun b_9 => ?_) (fun b_9 => ?_)
  · exact absurd b_9 (by rw [if_pos ⟨by omega, by omega⟩]; decide)
  · refine lv_aload_n X.1 X.2.1 dX7_setPay_12 rfl (lv_at hl 0 rfl) ?_
    refine x_get (C := RX7) (T := TX7) (N := 4) X hW (by omega) h0 rfl lk_3 0 (by decide) lk_4 rfl dX7_setPay_13 ?_
    refine lv_iload_n X.1 X.2.1 dX7_setPay_16 rfl (lv_at hl 1 rfl) ?_
    refine lv_iload_n X.1 X.2.1 dX7_setPay_17 rfl (lv_at hl 2 rfl) ?_
    refine x_iast X hW (by omega) h1 t (by omega) (by omega) (by decide) dX7_setPay_18 (fun g_18 H locs hg_18 hW => ?_)
    have h0 : g_18 i = .inr (7, [.ref (A (i + 1)), .ref (A (i + 2)), .ref (A (i + 3)), .ref (A (i + 5))]) := by rw [hg_18, va_up_ne _ _ (by omega)]; exact h0
    have h1 : g_18 (i + 1) = aI E 21 (upd fp t (iI ((b : Int)))) := by rw [hg_18]; exact va_up_self _ _ _
    exact x_vret X hr hlk hW (⟨h1, fun j hj => by rw [hg_18, va_up_ne _ _ hj]⟩) dX7_setPay_19
