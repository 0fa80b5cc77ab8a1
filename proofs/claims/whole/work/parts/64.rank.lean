/-! ===== the class's Ranking ===== -/
/-- its object and its row of Naturals -/
def RkC (E : wE) (A : Nat → Nat) (g : Nat → va_E) (i : Nat) (fy : Nat → Option Nat) : Prop := g i = .inr (7, [.ref (A (i + 1)), .ref (A (i + 2)), .ref (A (i + 3)), .ref (A (i + 5))]) ∧ g (i + 2) = aR E 3 21 fy ∧ ∀ k, k < 21 → fy k = some (A (i + 7 + 2 * k))
/-- the best words on the first k ranks -/
def gaS (nv : Nat) (yv : Nat → Nat) : Nat → Nat
  | 0 => 0
  | k + 1 => gaS nv yv k + (if nv ≤ yv (k + 1) then yv (k + 1) else nv)
theorem gaS_le {nv : Nat} {yv : Nat → Nat} {M : Nat} (k : Nat) (h1 : nv ≤ M) (h2 : ∀ s, 1 ≤ s → s ≤ k → yv s ≤ M) : gaS nv yv k ≤ k * M := by
  induction k with
  | zero => exact Nat.zero_le _
  | succ k ih =>
    have a := ih (fun s q r => h2 s q (by omega))
    have b := h2 (k + 1) (by omega) (Nat.le_refl _)
    show gaS nv yv k + _ ≤ (k + 1) * M
    rw [Nat.add_mul, Nat.one_mul]
    exact Nat.add_le_add a (by split <;> omega)
def unS (j : Nat) (yv : Nat → Nat) (s : Nat) : Nat := if 1 ≤ s ∧ s ≤ j then yv s * (j + 1 - s) + yv (s + 1) * s else yv s

set_option maxHeartbeats 4000000 in
set_option maxRecDepth 100000 in
/-- goAhead -/
theorem c_X7_goAhead (l : Launch) (E : wE) (A : Nat → Nat) (n sz : Nat) (g : Nat → va_E) (i : Nat) (fy : Nat → Option Nat) (jj nv : Nat) (yv : Nat → Nat) (hi : i + 48 < n) (hC : RkC E A g i fy) (hj1 : 1 ≤ jj) (hj2 : jj ≤ 20) (n_3 : NatV E A g (i + 3) nv) (hY : ∀ s, 1 ≤ s → s ≤ jj → NatV E A g (i + 7 + 2 * s) (yv s)) (hX5 : NatX E A g (i + 5)) (hnc : nv ≤ 10 ^ 45) (hyc : ∀ s, 1 ≤ s → s ≤ jj → yv s ≤ 10 ^ 45) : Met l yX7_goAhead wsX7_goAhead ({ frames := 3, cells := 0, slots := 0, locals := 120 } : Room) (va_Pc [.ref (A (i)), .int (iI ((jj : Int)))] (wPre E A n sz g)) (va_Qv (fun g' => NatV E A g' (i + 3) (gaS nv yv jj) ∧ NatX E A g' (i + 5) ∧ ∀ j, (j ≠ i + 4 ∧ j ≠ i + 6) → g' j = g j) (wAt E A n) (wF A n sz)) 0 0 (wF A n sz) := by
  refine x_met (cc := cX7_goAhead) (maxL := 3) (ret := none) [.ref (A (i)), .int (iI ((jj : Int)))] (by decide) rfl (Nat.le_of_ble_eq_true rfl) ?_
  intro p e s m below meth c ls X hr hlk hnm hsz hW hl
  have hl : lv_has ls 3 [(0, .ref (A (i))), (1, .int (iI ((jj : Int))))] := hl
  have lk_0 : ∀ w ∈ wsX70, w ∈ wsX7_goAhead := by decide +kernel
  have lk_1 : Cond.fieldLink RX7 26 (TX7 3).1 (TX7 3).2.1 (TX7 3).2.2.1 ∈ wsX7_goAhead := by decide +kernel
  have lk_2 : Cond.methodLink RX7 59 Lib.Math.min.name ∈ wsX7_goAhead := by decide +kernel
  have lk_3 : Cond.static Lib.Math.min.name ∈ wsX7_goAhead := by decide +kernel
  have lk_4 : Cond.initialized "java/lang/Math" ∈ wsX7_goAhead := by decide +kernel
  have lk_5 : Cond.code Lib.Math.min.name Lib.Math.min.code 2 (some .int) ∈ wsX7_goAhead := by decide +kernel
  have lk_6 : Cond.fieldLink RX7 22 (TX7 2).1 (TX7 2).2.1 (TX7 2).2.2.1 ∈ wsX7_goAhead := by decide +kernel
  have lk_7 : Cond.fieldLink RX7 17 (TX7 1).1 (TX7 1).2.1 (TX7 1).2.2.1 ∈ wsX7_goAhead := by decide +kernel
  obtain ⟨h0, h2, hfy⟩ := hC
  have h0g := h0
  have h2g := h2
  have hYg := hY
  have n_5 := hX5
  have hfr : ∀ j, (j ≠ i + 4 ∧ j ≠ i + 6) → g j = g j := fun _ _ => rfl
  refine lv_aload_n X.1 X.2.1 dX7_goAhead_0 rfl (lv_at hl 0 rfl) ?_
  refine x_get (C := RX7) (T := TX7) (N := 4) X hW (by omega) h0 rfl lk_0 3 (by decide) lk_1 rfl dX7_goAhead_1 ?_
  refine x_lconst X 0 (by decide) dX7_goAhead_4 ?_
  refine x_cv (x_runV (k := 1) (As := [.long (lI (0))]) (rest := []) X hW (c_X5_put l E A n _ g (i + 5) 0 (by omega) n_5 (by decide)) (by omega) n_5.1 rfl gX7_goAhead_X5_put rfl rfl rfl (by decide +kernel) ⟨by decide, by decide⟩ rfl hl.1 rfl (Nat.le_of_ble_eq_true rfl) dX7_goAhead_5 ⟨Nat.zero_le _, Nat.zero_le _⟩) hW (fun g_5 H locs hp_5 hW => ?_)
  obtain ⟨nv_5, hf_5⟩ := hp_5
  have h0 : g_5 i = .inr (7, [.ref (A (i + 1)), .ref (A (i + 2)), .ref (A (i + 3)), .ref (A (i + 5))]) := by rw [hf_5 _ (by omega)]; exact h0
  have h2 : g_5 (i + 2) = aR E 3 21 fy := by rw [hf_5 _ (by omega)]; exact h2
  have n_3 : NatV E A g_5 (i + 3) nv := n_3.frame (hf_5 _ (by omega)) (hf_5 _ (by omega))
  have n_5 : NatV E A g_5 (i + 5) 0 := nv_5
  have hfr : ∀ j, (j ≠ i + 4 ∧ j ≠ i + 6) → g_5 j = g j := fun j hj => (hf_5 j (by omega)).trans (hfr j hj)
  refine x_iconst X dX7_goAhead_8 ?_
  refine x_seti (((1 : Nat) : Int)) rfl ?_
  refine lv_istore_n (lv' := [(2, .int (iI (((1 : Nat) : Int)))), (0, .ref (A (i))), (1, .int (iI ((jj : Int))))]) X.1 X.2.1 dX7_goAhead_9 rfl hl (by decide) rfl (fun ls hl => ?_)
  have loop_10 : ∀ (fuel : Nat) (q : Nat) (q1 : Nat) (gw : Nat → va_E) (H : Heap) (locs : List Loc) (ls : Array Slot), (21 - q) < fuel → (q = q1 + 1) → (q ≤ jj + 1) → (NatV E A gw (i + 3) nv) → (NatV E A gw (i + 5) (gaS nv yv q1)) → (∀ j, (j ≠ i + 4 ∧ j ≠ i + 6) → gw j = g j) → wH E (wF A n sz) A n s gw H locs → lv_has ls 3 [(0, .ref (A (i))), (1, .int (iI ((jj : Int)))), (2, .int (iI ((q : Int))))] → W p l e ({ frames := 3, cells := 0, slots := 0, locals := 120 } : Room) s m [.ref (A (i)), .int (iI ((jj : Int)))].toArray below meth c H locs 0 0 (MQ below (va_Qv (fun g' => NatV E A g' (i + 3) (gaS nv yv jj) ∧ NatX E A g' (i + 5) ∧ ∀ j, (j ≠ i + 4 ∧ j ≠ i + 6) → g' j = g j) (wAt E A n) (wF A n sz)) [.ref (A (i)), .int (iI ((jj : Int)))].toArray s 0 0 (wF A n sz)) (F0 m 10 ls []) := by
    intro fuel
    induction fuel with
    | zero => intro q q1 gw H locs ls hm; exact absurd hm (Nat.not_lt_zero _)
    | succ fuel ih_10 =>
      intro q q1 gw H locs ls hm hq hqj n_3 n_5 hfr hW hl
      have h0 : gw i = .inr (7, [.ref (A (i + 1)), .ref (A (i + 2)), .ref (A (i + 3)), .ref (A (i + 5))]) := (hfr _ (by omega)).trans h0g
      have h2 : gw (i + 2) = aR E 3 21 fy := (hfr _ (by omega)).trans h2g
      have hY : ∀ s, 1 ≤ s → s ≤ jj → NatV E A gw (i + 7 + 2 * s) (yv s) := fun s a b => (hYg s a b).frame (hfr _ (by omega)) (hfr _ (by omega))
      refine lv_iload_n X.1 X.2.1 dX7_goAhead_10 rfl (lv_at hl 2 rfl) ?_
      refine lv_iload_n X.1 X.2.1 dX7_goAhead_11 rfl (lv_at hl 1 rfl) ?_
      refine x_bipush X (by decide) dX7_goAhead_12 ?_
      refine x_mmini X hl.1 ⟨by omega, by omega⟩ ⟨by decide, by decide⟩ lk_2 lk_3 lk_4 lk_5 (by decide) (Nat.le_of_ble_eq_true rfl) (Nat.zero_le _) (Nat.zero_le _) dX7_goAhead_14 ?_
      refine x_icmp_gt (tgt := 63) X ⟨by omega, by omega⟩ ⟨by split <;> omega, by split <;> omega⟩ dX7_goAhead_17 (by decide) (fun b_17 => ?_) (fun b_17 => ?_)
      · have hqe : q1 = jj := by
          split at b_17 <;> omega
        refine lv_aload_n X.1 X.2.1 dX7_goAhead_63 rfl (lv_at hl 0 rfl) ?_
        refine x_get (C := RX7) (T := TX7) (N := 4) X hW (by omega) h0 rfl lk_0 2 (by decide) lk_6 rfl dX7_goAhead_64 ?_
        refine lv_aload_n X.1 X.2.1 dX7_goAhead_67 rfl (lv_at hl 0 rfl) ?_
        refine x_get (C := RX7) (T := TX7) (N := 4) X hW (by omega) h0 rfl lk_0 3 (by decide) lk_1 rfl dX7_goAhead_68 ?_
        refine x_cv (x_runV (k := 1) (As := [.ref (A (i + 5))]) (rest := []) X hW (c_X5_copy l E A n _ gw (i + 3) (i + 5) (gaS nv yv q1) (by omega) (by omega) (by omega) (by omega) (by omega) n_3.any n_5) (by omega) n_3.2.1 rfl gX7_goAhead_X5_copy rfl rfl rfl (by decide +kernel) ⟨by decide, by decide⟩ rfl hl.1 rfl (Nat.le_of_ble_eq_true rfl) dX7_goAhead_71 ⟨Nat.zero_le _, Nat.zero_le _⟩) hW (fun g_71 H locs hp_71 hW => ?_)
        obtain ⟨nv_71, hf_71⟩ := hp_71
        have h0 : g_71 i = .inr (7, [.ref (A (i + 1)), .ref (A (i + 2)), .ref (A (i + 3)), .ref (A (i + 5))]) := by rw [hf_71 _ (by omega)]; exact h0
        have h2 : g_71 (i + 2) = aR E 3 21 fy := by rw [hf_71 _ (by omega)]; exact h2
        have n_5 : NatV E A g_71 (i + 5) (gaS nv yv q1) := n_5.frame (hf_71 _ (by omega)) (hf_71 _ (by omega))
        have n_3 : NatV E A g_71 (i + 3) (gaS nv yv q1) := nv_71
        have hfr : ∀ j, (j ≠ i + 4 ∧ j ≠ i + 6) → g_71 j = g j := fun j hj => (hf_71 j (by omega)).trans (hfr j hj)
        exact x_vret X hr hlk hW (⟨by rw [← hqe]; exact n_3, n_5.any, hfr⟩) dX7_goAhead_74
      · have hq1 : 1 ≤ q := by omega
        have hql : q ≤ jj := Decidable.byContradiction (fun z9 => b_17 (by split <;> omega))
        have hgs := gaS_le (nv := nv) (yv := yv) (M := 10 ^ 45) q1 hnc (fun s a b => hyc s a (by omega))
        have hgs2 : q1 * 10 ^ 45 ≤ 20 * 10 ^ 45 := Nat.mul_le_mul_right _ (by omega)
        have hyq := hyc q hq1 hql
        refine lv_aload_n X.1 X.2.1 dX7_goAhead_20 rfl (lv_at hl 0 rfl) ?_
        refine x_get (C := RX7) (T := TX7) (N := 4) X hW (by omega) h0 rfl lk_0 3 (by decide) lk_1 rfl dX7_goAhead_21 ?_
        refine lv_aload_n X.1 X.2.1 dX7_goAhead_24 rfl (lv_at hl 0 rfl) ?_
        refine x_get (C := RX7) (T := TX7) (N := 4) X hW (by omega) h0 rfl lk_0 1 (by decide) lk_7 rfl dX7_goAhead_25 ?_
        refine lv_iload_n X.1 X.2.1 dX7_goAhead_28 rfl (lv_at hl 2 rfl) ?_
        refine x_aald X hW (by omega) h2 rfl (j := i + 7 + 2 * q) q (by omega) (by omega) (by decide) (hfy q (by omega)) dX7_goAhead_29 ?_
        refine lv_aload_n X.1 X.2.1 dX7_goAhead_30 rfl (lv_at hl 0 rfl) ?_
        refine x_get (C := RX7) (T := TX7) (N := 4) X hW (by omega) h0 rfl lk_0 2 (by decide) lk_6 rfl dX7_goAhead_31 ?_
        have nY := hY q hq1 (by omega)
        refine x_ci (x_runV (k := 1) (As := [.ref (A (i + 3))]) (rest := [.ref (A (i + 5))]) X hW (c_X5_against l E A n _ gw (i + 7 + 2 * q) (i + 3) (yv q) nv (by omega) (by omega) nY n_3) (by omega) nY.2.1 rfl gX7_goAhead_X5_against rfl rfl rfl (by decide +kernel) ⟨by decide, by decide⟩ rfl hl.1 rfl (Nat.le_of_ble_eq_true rfl) dX7_goAhead_34 ⟨Nat.zero_le _, Nat.zero_le _⟩) hW (fun r_34 g_34 H locs hp_34 hW => ?_)
        obtain ⟨hr_34, he_34⟩ := hp_34
        rw [he_34] at hW
        subst hr_34
        refine x_if_lt (tgt := 49) X ⟨by repeat (first | decide | split), by repeat (first | decide | split)⟩ dX7_goAhead_37 (by decide) (fun b_37 => ?_) (fun b_37 => ?_)
        · have hcl : ¬ nv ≤ yv q := fun z9 => by rw [if_neg (by omega)] at b_37; split at b_37 <;> omega
          refine lv_aload_n X.1 X.2.1 dX7_goAhead_49 rfl (lv_at hl 0 rfl) ?_
          refine x_get (C := RX7) (T := TX7) (N := 4) X hW (by omega) h0 rfl lk_0 2 (by decide) lk_6 rfl dX7_goAhead_50 ?_
          refine x_lconst X 1 (by decide) dX7_goAhead_53 ?_
          refine x_cv (x_runV (k := 2) (As := [.ref (A (i + 3)), .long (lI (1))]) (rest := []) X hW (c_X5_addTimes l E A n _ gw (i + 5) (i + 3) (gaS nv yv q1) nv 1 (by omega) (by omega) (by omega) (by omega) (by omega) n_5 n_3 (by decide) (by omega)) (by omega) n_5.2.1 rfl gX7_goAhead_X5_addTimes rfl rfl rfl (by decide +kernel) ⟨by decide, by decide⟩ rfl hl.1 rfl (Nat.le_of_ble_eq_true rfl) dX7_goAhead_54 ⟨Nat.zero_le _, Nat.zero_le _⟩) hW (fun g_54 H locs hp_54 hW => ?_)
          obtain ⟨n_5, hf_54⟩ := hp_54
          rw [Nat.mul_one] at n_5
          have h0 : g_54 i = .inr (7, [.ref (A (i + 1)), .ref (A (i + 2)), .ref (A (i + 3)), .ref (A (i + 5))]) := by rw [hf_54 _ (by omega)]; exact h0
          have h2 : g_54 (i + 2) = aR E 3 21 fy := by rw [hf_54 _ (by omega)]; exact h2
          have n_3 := n_3.frame (hf_54 _ (by omega)) (hf_54 _ (by omega))
          have hstep : gaS nv yv q = gaS nv yv q1 + nv := by rw [hq]; show gaS nv yv q1 + _ = _; rw [← hq]; first | rw [if_pos (by omega)] | rw [if_neg (by omega)]
          rw [← hstep] at n_5
          have hfr : ∀ j, (j ≠ i + 4 ∧ j ≠ i + 6) → g_54 j = g j := fun j hj => (hf_54 j (by omega)).trans (hfr j hj)
          refine lv_iinc (v := iI (((q + 1 : Nat) : Int))) (lv' := [(2, .int (iI (((q + 1 : Nat) : Int)))), (0, .ref (A (i))), (1, .int (iI ((jj : Int))))]) X.1 X.2.1 dX7_goAhead_57 hl (k := 2) rfl (by rw [show (Int32.ofInt (1)) = iI (1) from rfl, iI_add]; rfl) (by decide) rfl (fun ls hl => ?_)
          refine lv_goto (tgt := 10) X.1 X.2.1 dX7_goAhead_60 (by decide) ?_
          exact ih_10 (q + 1) q g_54 _ _ _ (by omega) rfl (by omega) n_3 n_5 hfr hW (lv_sub hl [1, 2, 0] rfl)
        · have hcg : nv ≤ yv q := Decidable.byContradiction (fun z9 => b_37 (by rw [if_pos (by omega)]; decide))
          refine lv_aload_n X.1 X.2.1 dX7_goAhead_40 rfl (lv_at hl 0 rfl) ?_
          refine x_get (C := RX7) (T := TX7) (N := 4) X hW (by omega) h0 rfl lk_0 1 (by decide) lk_7 rfl dX7_goAhead_41 ?_
          refine lv_iload_n X.1 X.2.1 dX7_goAhead_44 rfl (lv_at hl 2 rfl) ?_
          refine x_aald X hW (by omega) h2 rfl (j := i + 7 + 2 * q) q (by omega) (by omega) (by decide) (hfy q (by omega)) dX7_goAhead_45 ?_
          refine lv_goto (tgt := 53) X.1 X.2.1 dX7_goAhead_46 (by decide) ?_
          refine x_lconst X 1 (by decide) dX7_goAhead_53 ?_
          refine x_cv (x_runV (k := 2) (As := [.ref (A (i + 7 + 2 * q)), .long (lI (1))]) (rest := []) X hW (c_X5_addTimes l E A n _ gw (i + 5) (i + 7 + 2 * q) (gaS nv yv q1) (yv q) 1 (by omega) (by omega) (by omega) (by omega) (by omega) n_5 nY (by decide) (by omega)) (by omega) n_5.2.1 rfl gX7_goAhead_X5_addTimes rfl rfl rfl (by decide +kernel) ⟨by decide, by decide⟩ rfl hl.1 rfl (Nat.le_of_ble_eq_true rfl) dX7_goAhead_54 ⟨Nat.zero_le _, Nat.zero_le _⟩) hW (fun g_54 H locs hp_54 hW => ?_)
          obtain ⟨n_5, hf_54⟩ := hp_54
          rw [Nat.mul_one] at n_5
          have h0 : g_54 i = .inr (7, [.ref (A (i + 1)), .ref (A (i + 2)), .ref (A (i + 3)), .ref (A (i + 5))]) := by rw [hf_54 _ (by omega)]; exact h0
          have h2 : g_54 (i + 2) = aR E 3 21 fy := by rw [hf_54 _ (by omega)]; exact h2
          have n_3 := n_3.frame (hf_54 _ (by omega)) (hf_54 _ (by omega))
          have hstep : gaS nv yv q = gaS nv yv q1 + (yv q) := by rw [hq]; show gaS nv yv q1 + _ = _; rw [← hq]; first | rw [if_pos (by omega)] | rw [if_neg (by omega)]
          rw [← hstep] at n_5
          have hfr : ∀ j, (j ≠ i + 4 ∧ j ≠ i + 6) → g_54 j = g j := fun j hj => (hf_54 j (by omega)).trans (hfr j hj)
          refine lv_iinc (v := iI (((q + 1 : Nat) : Int))) (lv' := [(2, .int (iI (((q + 1 : Nat) : Int)))), (0, .ref (A (i))), (1, .int (iI ((jj : Int))))]) X.1 X.2.1 dX7_goAhead_57 hl (k := 2) rfl (by rw [show (Int32.ofInt (1)) = iI (1) from rfl, iI_add]; rfl) (by decide) rfl (fun ls hl => ?_)
          refine lv_goto (tgt := 10) X.1 X.2.1 dX7_goAhead_60 (by decide) ?_
          exact ih_10 (q + 1) q g_54 _ _ _ (by omega) rfl (by omega) n_3 n_5 hfr hW (lv_sub hl [1, 2, 0] rfl)
  exact loop_10 _ 1 0 g_5 _ _ _ (Nat.lt_succ_self _) rfl (by omega) n_3 n_5 hfr hW (lv_sub hl [1, 2, 0] rfl)
