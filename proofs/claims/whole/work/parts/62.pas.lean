/-! ===== the class's Passing ===== -/
def PasV (E : wE) (A : Nat → Nat) (g : Nat → va_E) (i WH : Nat) : Prop := g i = .inr (6, [.ref (A (i + 1)), .ref (A (i + 3)), .ref (A (i + 5)), .ref (A (i + 7)), .ref (A (i + 9))]) ∧ NatV E A g (i + 1) WH ∧ NatX E A g (i + 3) ∧ NatX E A g (i + 5) ∧ NatX E A g (i + 7) ∧ NatX E A g (i + 9)
theorem PasV.frame {E : wE} {A : Nat → Nat} {g g' : Nat → va_E} {i WH : Nat} (h : PasV E A g i WH) (hf : ∀ j, i ≤ j → j ≤ i + 10 → g' j = g j) : PasV E A g' i WH := by
  obtain ⟨h0, n1, n3, n5, n7, n9⟩ := h
  exact ⟨(hf _ (by omega) (by omega)).trans h0, n1.frame (hf _ (by omega) (by omega)) (hf _ (by omega) (by omega)), n3.frame (hf _ (by omega) (by omega)) (hf _ (by omega) (by omega)), n5.frame (hf _ (by omega) (by omega)) (hf _ (by omega) (by omega)), n7.frame (hf _ (by omega) (by omega)) (hf _ (by omega) (by omega)), n9.frame (hf _ (by omega) (by omega)) (hf _ (by omega) (by omega))⟩
/-- from letting all but one down: the shares, the wins, the most, and which r it is -/
def lsS (WH nn : Nat) : Nat → Nat
  | 0 => 0
  | d + 1 => if nn - 1 - d = 0 then lsS WH nn d else lsS WH nn d + WH / (nn - 1 - d)
def lsW (WH nn d : Nat) : Nat := if nn - 1 - d = 0 then WH else lsS WH nn (d + 1) * (nn - 1 - d)
def lsM (WH nn : Nat) : Nat → Nat
  | 0 => 0
  | d + 1 => if lsM WH nn d ≤ lsW WH nn d then lsW WH nn d else lsM WH nn d
def lsB (WH nn : Nat) : Nat → Nat
  | 0 => 0
  | d + 1 => if lsM WH nn d ≤ lsW WH nn d then nn - 1 - d else lsB WH nn d
theorem lsS_le (WH nn : Nat) : ∀ d, lsS WH nn d ≤ d * WH := by
  intro d
  induction d with
  | zero => exact Nat.zero_le _
  | succ d ih =>
    show (if _ then _ else _) ≤ (d + 1) * WH
    have : WH / (nn - 1 - d) ≤ WH := Nat.div_le_self _ _
    rw [Nat.add_mul, Nat.one_mul]
    split
    · exact Nat.le_trans ih (Nat.le_add_right _ _)
    · exact Nat.add_le_add ih this

set_option maxHeartbeats 4000000 in
set_option maxRecDepth 100000 in
/-- letOneLess -/
theorem c_X6_letOneLess (l : Launch) (E : wE) (A : Nat → Nat) (n sz : Nat) (g : Nat → va_E) (i WH r sv : Nat) (hi : i + 10 < n) (hV : PasV E A g i WH) (hrr : r ≤ 59) (w_5 : NatV E A g (i + 5) sv) (hW30 : WH ≤ 10 ^ 30) (hs : sv ≤ 60 * WH) : Met l yX6_letOneLess wsX6_letOneLess ({ frames := 2, cells := 0, slots := 0, locals := 100 } : Room) (va_Pc [.ref (A (i)), .int (iI ((r : Int)))] (wPre E A n sz g)) (va_Qv (fun g' => NatV E A g' (i + 5) (if r = 0 then sv else sv + WH / r) ∧ NatV E A g' (i + 7) (if r = 0 then WH else (sv + WH / r) * r) ∧ NatX E A g' (i + 3) ∧ ∀ j, (j ≠ i + 4 ∧ j ≠ i + 6 ∧ j ≠ i + 8) → g' j = g j) (wAt E A n) (wF A n sz)) 0 0 (wF A n sz) := by
  refine x_met (cc := cX6_letOneLess) (maxL := 2) (ret := none) [.ref (A (i)), .int (iI ((r : Int)))] (by decide) rfl (Nat.le_of_ble_eq_true rfl) ?_
  intro p e s m below meth c ls X hr hlk hnm hsz hW hl
  have hl : lv_has ls 2 [(0, .ref (A (i))), (1, .int (iI ((r : Int))))] := hl
  have lk_0 : ∀ w ∈ wsX60, w ∈ wsX6_letOneLess := by decide +kernel
  have lk_1 : Cond.fieldLink RX6 16 (TX6 1).1 (TX6 1).2.1 (TX6 1).2.2.1 ∈ wsX6_letOneLess := by decide +kernel
  have lk_2 : Cond.fieldLink RX6 10 (TX6 0).1 (TX6 0).2.1 (TX6 0).2.2.1 ∈ wsX6_letOneLess := by decide +kernel
  have lk_3 : Cond.fieldLink RX6 19 (TX6 2).1 (TX6 2).2.1 (TX6 2).2.2.1 ∈ wsX6_letOneLess := by decide +kernel
  have lk_4 : Cond.fieldLink RX6 22 (TX6 3).1 (TX6 3).2.1 (TX6 3).2.2.1 ∈ wsX6_letOneLess := by decide +kernel
  have hr9 := hrr
  obtain ⟨h0, n_1, n_3, n_5, n_7, n_9⟩ := hV
  have n_5 := w_5
  have hfr : ∀ j, (j ≠ i + 4 ∧ j ≠ i + 6 ∧ j ≠ i + 8) → g j = g j := fun _ _ => rfl
  have hdv : WH / r ≤ WH := Nat.div_le_self _ _
  have hmu : (sv + WH / r) * r ≤ (sv + WH / r) * 59 := Nat.mul_le_mul_left _ hr9
  refine lv_iload_n X.1 X.2.1 dX6_letOneLess_0 rfl (lv_at hl 1 rfl) ?_
  refine x_iconst X dX6_letOneLess_1 ?_
  refine x_icmp_ge (tgt := 17) X ⟨by omega, by omega⟩ ⟨by decide, by decide⟩ dX6_letOneLess_2 (by decide) (fun b_2 => ?_) (fun b_2 => ?_)
  · refine lv_aload_n X.1 X.2.1 dX6_letOneLess_17 rfl (lv_at hl 0 rfl) ?_
    refine x_get (C := RX6) (T := TX6) (N := 5) X hW (by omega) h0 rfl lk_0 1 (by decide) lk_1 rfl dX6_letOneLess_18 ?_
    refine lv_aload_n X.1 X.2.1 dX6_letOneLess_21 rfl (lv_at hl 0 rfl) ?_
    refine x_get (C := RX6) (T := TX6) (N := 5) X hW (by omega) h0 rfl lk_0 0 (by decide) lk_2 rfl dX6_letOneLess_22 ?_
    refine x_cv (x_runV (k := 1) (As := [.ref (A (i + 1))]) (rest := []) X hW (c_X5_copy l E A n _ g (i + 3) (i + 1) WH (by omega) (by omega) (by omega) (by omega) (by omega) n_3 n_1) (by omega) n_3.1 rfl gX6_letOneLess_X5_copy rfl rfl rfl (by decide +kernel) ⟨by decide, by decide⟩ rfl hl.1 rfl (Nat.le_of_ble_eq_true rfl) dX6_letOneLess_25 ⟨Nat.zero_le _, Nat.zero_le _⟩) hW (fun g_25 H locs hp_25 hW => ?_)
    obtain ⟨nv_25, hf_25⟩ := hp_25
    have h0 : g_25 i = .inr (6, [.ref (A (i + 1)), .ref (A (i + 3)), .ref (A (i + 5)), .ref (A (i + 7)), .ref (A (i + 9))]) := by rw [hf_25 _ (by omega)]; exact h0
    have n_1 : NatV E A g_25 (i + 1) WH := n_1.frame (hf_25 _ (by omega)) (hf_25 _ (by omega))
    have n_5 : NatV E A g_25 (i + 5) sv := n_5.frame (hf_25 _ (by omega)) (hf_25 _ (by omega))
    have n_7 : NatX E A g_25 (i + 7) := n_7.frame (hf_25 _ (by omega)) (hf_25 _ (by omega))
    have n_9 : NatX E A g_25 (i + 9) := n_9.frame (hf_25 _ (by omega)) (hf_25 _ (by omega))
    have n_3 : NatV E A g_25 (i + 3) WH := nv_25
    have hfr : ∀ j, (j ≠ i + 4 ∧ j ≠ i + 6 ∧ j ≠ i + 8) → g_25 j = g j := fun j hj => (hf_25 j (by omega)).trans (hfr j hj)
    refine lv_aload_n X.1 X.2.1 dX6_letOneLess_28 rfl (lv_at hl 0 rfl) ?_
    refine x_get (C := RX6) (T := TX6) (N := 5) X hW (by omega) h0 rfl lk_0 1 (by decide) lk_1 rfl dX6_letOneLess_29 ?_
    refine lv_iload_n X.1 X.2.1 dX6_letOneLess_32 rfl (lv_at hl 1 rfl) ?_
    refine x_cv (x_runV (k := 1) (As := [.int (iI ((r : Int)))]) (rest := []) X hW (c_X5_divide l E A n _ g_25 (i + 3) WH r (by omega) n_3 (by omega) (by omega)) (by omega) n_3.2.1 rfl gX6_letOneLess_X5_divide rfl rfl rfl (by decide +kernel) ⟨by decide, by decide⟩ rfl hl.1 rfl (Nat.le_of_ble_eq_true rfl) dX6_letOneLess_33 ⟨Nat.zero_le _, Nat.zero_le _⟩) hW (fun g_33 H locs hp_33 hW => ?_)
    obtain ⟨nv_33, hf_33⟩ := hp_33
    have h0 : g_33 i = .inr (6, [.ref (A (i + 1)), .ref (A (i + 3)), .ref (A (i + 5)), .ref (A (i + 7)), .ref (A (i + 9))]) := by rw [hf_33 _ (by omega)]; exact h0
    have n_1 : NatV E A g_33 (i + 1) WH := n_1.frame (hf_33 _ (by omega)) (hf_33 _ (by omega))
    have n_5 : NatV E A g_33 (i + 5) sv := n_5.frame (hf_33 _ (by omega)) (hf_33 _ (by omega))
    have n_7 : NatX E A g_33 (i + 7) := n_7.frame (hf_33 _ (by omega)) (hf_33 _ (by omega))
    have n_9 : NatX E A g_33 (i + 9) := n_9.frame (hf_33 _ (by omega)) (hf_33 _ (by omega))
    have n_3 : NatV E A g_33 (i + 3) (WH / r) := nv_33
    have hfr : ∀ j, (j ≠ i + 4 ∧ j ≠ i + 6 ∧ j ≠ i + 8) → g_33 j = g j := fun j hj => (hf_33 j (by omega)).trans (hfr j hj)
    refine lv_aload_n X.1 X.2.1 dX6_letOneLess_36 rfl (lv_at hl 0 rfl) ?_
    refine x_get (C := RX6) (T := TX6) (N := 5) X hW (by omega) h0 rfl lk_0 2 (by decide) lk_3 rfl dX6_letOneLess_37 ?_
    refine lv_aload_n X.1 X.2.1 dX6_letOneLess_40 rfl (lv_at hl 0 rfl) ?_
    refine x_get (C := RX6) (T := TX6) (N := 5) X hW (by omega) h0 rfl lk_0 1 (by decide) lk_1 rfl dX6_letOneLess_41 ?_
    refine x_lconst X 1 (by decide) dX6_letOneLess_44 ?_
    refine x_cv (x_runV (k := 2) (As := [.ref (A (i + 3)), .long (lI (1))]) (rest := []) X hW (c_X5_addTimes l E A n _ g_33 (i + 5) (i + 3) sv (WH / r) 1 (by omega) (by omega) (by omega) (by omega) (by omega) n_5 n_3 (by decide) (by omega)) (by omega) n_5.2.1 rfl gX6_letOneLess_X5_addTimes rfl rfl rfl (by decide +kernel) ⟨by decide, by decide⟩ rfl hl.1 rfl (Nat.le_of_ble_eq_true rfl) dX6_letOneLess_45 ⟨Nat.zero_le _, Nat.zero_le _⟩) hW (fun g_45 H locs hp_45 hW => ?_)
    obtain ⟨nv_45, hf_45⟩ := hp_45
    have h0 : g_45 i = .inr (6, [.ref (A (i + 1)), .ref (A (i + 3)), .ref (A (i + 5)), .ref (A (i + 7)), .ref (A (i + 9))]) := by rw [hf_45 _ (by omega)]; exact h0
    have n_1 : NatV E A g_45 (i + 1) WH := n_1.frame (hf_45 _ (by omega)) (hf_45 _ (by omega))
    have n_3 : NatV E A g_45 (i + 3) (WH / r) := n_3.frame (hf_45 _ (by omega)) (hf_45 _ (by omega))
    have n_7 : NatX E A g_45 (i + 7) := n_7.frame (hf_45 _ (by omega)) (hf_45 _ (by omega))
    have n_9 : NatX E A g_45 (i + 9) := n_9.frame (hf_45 _ (by omega)) (hf_45 _ (by omega))
    have n_5 : NatV E A g_45 (i + 5) (sv + WH / r * 1) := nv_45
    have hfr : ∀ j, (j ≠ i + 4 ∧ j ≠ i + 6 ∧ j ≠ i + 8) → g_45 j = g j := fun j hj => (hf_45 j (by omega)).trans (hfr j hj)
    refine lv_aload_n X.1 X.2.1 dX6_letOneLess_48 rfl (lv_at hl 0 rfl) ?_
    refine x_get (C := RX6) (T := TX6) (N := 5) X hW (by omega) h0 rfl lk_0 3 (by decide) lk_4 rfl dX6_letOneLess_49 ?_
    refine lv_aload_n X.1 X.2.1 dX6_letOneLess_52 rfl (lv_at hl 0 rfl) ?_
    refine x_get (C := RX6) (T := TX6) (N := 5) X hW (by omega) h0 rfl lk_0 2 (by decide) lk_3 rfl dX6_letOneLess_53 ?_
    refine x_cv (x_runV (k := 1) (As := [.ref (A (i + 5))]) (rest := []) X hW (c_X5_copy l E A n _ g_45 (i + 7) (i + 5) (sv + WH / r * 1) (by omega) (by omega) (by omega) (by omega) (by omega) n_7 n_5) (by omega) n_7.1 rfl gX6_letOneLess_X5_copy rfl rfl rfl (by decide +kernel) ⟨by decide, by decide⟩ rfl hl.1 rfl (Nat.le_of_ble_eq_true rfl) dX6_letOneLess_56 ⟨Nat.zero_le _, Nat.zero_le _⟩) hW (fun g_56 H locs hp_56 hW => ?_)
    obtain ⟨nv_56, hf_56⟩ := hp_56
    have h0 : g_56 i = .inr (6, [.ref (A (i + 1)), .ref (A (i + 3)), .ref (A (i + 5)), .ref (A (i + 7)), .ref (A (i + 9))]) := by rw [hf_56 _ (by omega)]; exact h0
    have n_1 : NatV E A g_56 (i + 1) WH := n_1.frame (hf_56 _ (by omega)) (hf_56 _ (by omega))
    have n_3 : NatV E A g_56 (i + 3) (WH / r) := n_3.frame (hf_56 _ (by omega)) (hf_56 _ (by omega))
    have n_5 : NatV E A g_56 (i + 5) (sv + WH / r * 1) := n_5.frame (hf_56 _ (by omega)) (hf_56 _ (by omega))
    have n_9 : NatX E A g_56 (i + 9) := n_9.frame (hf_56 _ (by omega)) (hf_56 _ (by omega))
    have n_7 : NatV E A g_56 (i + 7) (sv + WH / r * 1) := nv_56
    have hfr : ∀ j, (j ≠ i + 4 ∧ j ≠ i + 6 ∧ j ≠ i + 8) → g_56 j = g j := fun j hj => (hf_56 j (by omega)).trans (hfr j hj)
    refine lv_aload_n X.1 X.2.1 dX6_letOneLess_59 rfl (lv_at hl 0 rfl) ?_
    refine x_get (C := RX6) (T := TX6) (N := 5) X hW (by omega) h0 rfl lk_0 3 (by decide) lk_4 rfl dX6_letOneLess_60 ?_
    refine lv_iload_n X.1 X.2.1 dX6_letOneLess_63 rfl (lv_at hl 1 rfl) ?_
    refine x_i2l X ⟨by omega, by omega⟩ dX6_letOneLess_64 ?_
    refine x_cv (x_runV (k := 1) (As := [.long (lI ((r : Int)))]) (rest := []) X hW (c_X5_times l E A n _ g_56 (i + 7) (sv + WH / r * 1) r (by omega) n_7 (by omega) (by rw [Nat.mul_one]; omega)) (by omega) n_7.2.1 rfl gX6_letOneLess_X5_times rfl rfl rfl (by decide +kernel) ⟨by decide, by decide⟩ rfl hl.1 rfl (Nat.le_of_ble_eq_true rfl) dX6_letOneLess_65 ⟨Nat.zero_le _, Nat.zero_le _⟩) hW (fun g_65 H locs hp_65 hW => ?_)
    obtain ⟨nv_65, hf_65⟩ := hp_65
    have h0 : g_65 i = .inr (6, [.ref (A (i + 1)), .ref (A (i + 3)), .ref (A (i + 5)), .ref (A (i + 7)), .ref (A (i + 9))]) := by rw [hf_65 _ (by omega)]; exact h0
    have n_1 : NatV E A g_65 (i + 1) WH := n_1.frame (hf_65 _ (by omega)) (hf_65 _ (by omega))
    have n_3 : NatV E A g_65 (i + 3) (WH / r) := n_3.frame (hf_65 _ (by omega)) (hf_65 _ (by omega))
    have n_5 : NatV E A g_65 (i + 5) (sv + WH / r * 1) := n_5.frame (hf_65 _ (by omega)) (hf_65 _ (by omega))
    have n_9 : NatX E A g_65 (i + 9) := n_9.frame (hf_65 _ (by omega)) (hf_65 _ (by omega))
    have n_7 : NatV E A g_65 (i + 7) ((sv + WH / r * 1) * r) := nv_65
    have hfr : ∀ j, (j ≠ i + 4 ∧ j ≠ i + 6 ∧ j ≠ i + 8) → g_65 j = g j := fun j hj => (hf_65 j (by omega)).trans (hfr j hj)
    exact x_vret X hr hlk hW (⟨by rw [if_neg (by omega)]; rw [Nat.mul_one] at n_5; exact n_5, by rw [if_neg (by omega)]; rw [Nat.mul_one] at n_7; exact n_7, n_3.any, hfr⟩) dX6_letOneLess_68
  · refine lv_aload_n X.1 X.2.1 dX6_letOneLess_5 rfl (lv_at hl 0 rfl) ?_
    refine x_get (C := RX6) (T := TX6) (N := 5) X hW (by omega) h0 rfl lk_0 3 (by decide) lk_4 rfl dX6_letOneLess_6 ?_
    refine lv_aload_n X.1 X.2.1 dX6_letOneLess_9 rfl (lv_at hl 0 rfl) ?_
    refine x_get (C := RX6) (T := TX6) (N := 5) X hW (by omega) h0 rfl lk_0 0 (by decide) lk_2 rfl dX6_letOneLess_10 ?_
    refine x_cv (x_runV (k := 1) (As := [.ref (A (i + 1))]) (rest := []) X hW (c_X5_copy l E A n _ g (i + 7) (i + 1) WH (by omega) (by omega) (by omega) (by omega) (by omega) n_7 n_1) (by omega) n_7.1 rfl gX6_letOneLess_X5_copy rfl rfl rfl (by decide +kernel) ⟨by decide, by decide⟩ rfl hl.1 rfl (Nat.le_of_ble_eq_true rfl) dX6_letOneLess_13 ⟨Nat.zero_le _, Nat.zero_le _⟩) hW (fun g_13 H locs hp_13 hW => ?_)
    obtain ⟨nv_13, hf_13⟩ := hp_13
    have h0 : g_13 i = .inr (6, [.ref (A (i + 1)), .ref (A (i + 3)), .ref (A (i + 5)), .ref (A (i + 7)), .ref (A (i + 9))]) := by rw [hf_13 _ (by omega)]; exact h0
    have n_1 : NatV E A g_13 (i + 1) WH := n_1.frame (hf_13 _ (by omega)) (hf_13 _ (by omega))
    have n_3 : NatX E A g_13 (i + 3) := n_3.frame (hf_13 _ (by omega)) (hf_13 _ (by omega))
    have n_5 : NatV E A g_13 (i + 5) sv := n_5.frame (hf_13 _ (by omega)) (hf_13 _ (by omega))
    have n_9 : NatX E A g_13 (i + 9) := n_9.frame (hf_13 _ (by omega)) (hf_13 _ (by omega))
    have n_7 : NatV E A g_13 (i + 7) WH := nv_13
    have hfr : ∀ j, (j ≠ i + 4 ∧ j ≠ i + 6 ∧ j ≠ i + 8) → g_13 j = g j := fun j hj => (hf_13 j (by omega)).trans (hfr j hj)
    exact x_vret X hr hlk hW (⟨by rw [if_pos (by omega)]; exact n_5, by rw [if_pos (by omega)]; exact n_7, n_3, hfr⟩) dX6_letOneLess_16

set_option maxHeartbeats 4000000 in
set_option maxRecDepth 100000 in
/-- bestToLet -/
theorem c_X6_bestToLet (l : Launch) (E : wE) (A : Nat → Nat) (n sz : Nat) (g : Nat → va_E) (i WH nn : Nat) (hi : i + 10 < n) (hV : PasV E A g i WH) (hn1 : 1 ≤ nn) (hn2 : nn ≤ 60) (hW30 : WH ≤ 10 ^ 30) : Met l yX6_bestToLet wsX6_bestToLet ({ frames := 3, cells := 0, slots := 0, locals := 140 } : Room) (va_Pc [.ref (A (i)), .int (iI ((nn : Int)))] (wPre E A n sz g)) (va_Qi (fun r g' => r = iI ((lsB WH nn nn : Nat) : Int) ∧ PasV E A g' i WH ∧ ∀ j, (j < i ∨ i + 10 < j) → g' j = g j) (wAt E A n) (wF A n sz)) 0 0 (wF A n sz) := by
  refine x_met (cc := cX6_bestToLet) (maxL := 4) (ret := (some .int)) [.ref (A (i)), .int (iI ((nn : Int)))] (by decide) rfl (Nat.le_of_ble_eq_true rfl) ?_
  intro p e s m below meth c ls X hr hlk hnm hsz hW hl
  have hl : lv_has ls 4 [(0, .ref (A (i))), (1, .int (iI ((nn : Int))))] := hl
  have lk_0 : ∀ w ∈ wsX60, w ∈ wsX6_bestToLet := by decide +kernel
  have lk_1 : Cond.fieldLink RX6 19 (TX6 2).1 (TX6 2).2.1 (TX6 2).2.2.1 ∈ wsX6_bestToLet := by decide +kernel
  have lk_2 : Cond.fieldLink RX6 25 (TX6 4).1 (TX6 4).2.1 (TX6 4).2.2.1 ∈ wsX6_bestToLet := by decide +kernel
  have lk_3 : Cond.fieldLink RX6 22 (TX6 3).1 (TX6 3).2.1 (TX6 3).2.2.1 ∈ wsX6_bestToLet := by decide +kernel
  obtain ⟨h0, n_1, n_3, n_5, n_7, n_9⟩ := hV
  have h0g := h0
  have hfr : ∀ j, (j ≠ i + 4 ∧ j ≠ i + 6 ∧ j ≠ i + 8 ∧ j ≠ i + 10) → g j = g j := fun _ _ => rfl
  refine lv_aload_n X.1 X.2.1 dX6_bestToLet_0 rfl (lv_at hl 0 rfl) ?_
  refine x_get (C := RX6) (T := TX6) (N := 5) X hW (by omega) h0 rfl lk_0 2 (by decide) lk_1 rfl dX6_bestToLet_1 ?_
  refine x_lconst X 0 (by decide) dX6_bestToLet_4 ?_
  refine x_cv (x_runV (k := 1) (As := [.long (lI (0))]) (rest := []) X hW (c_X5_put l E A n _ g (i + 5) 0 (by omega) n_5 (by decide)) (by omega) n_5.1 rfl gX6_bestToLet_X5_put rfl rfl rfl (by decide +kernel) ⟨by decide, by decide⟩ rfl hl.1 rfl (Nat.le_of_ble_eq_true rfl) dX6_bestToLet_5 ⟨Nat.zero_le _, Nat.zero_le _⟩) hW (fun g_5 H locs hp_5 hW => ?_)
  obtain ⟨nv_5, hf_5⟩ := hp_5
  have h0 : g_5 i = .inr (6, [.ref (A (i + 1)), .ref (A (i + 3)), .ref (A (i + 5)), .ref (A (i + 7)), .ref (A (i + 9))]) := by rw [hf_5 _ (by omega)]; exact h0
  have n_1 : NatV E A g_5 (i + 1) WH := n_1.frame (hf_5 _ (by omega)) (hf_5 _ (by omega))
  have n_3 : NatX E A g_5 (i + 3) := n_3.frame (hf_5 _ (by omega)) (hf_5 _ (by omega))
  have n_7 : NatX E A g_5 (i + 7) := n_7.frame (hf_5 _ (by omega)) (hf_5 _ (by omega))
  have n_9 : NatX E A g_5 (i + 9) := n_9.frame (hf_5 _ (by omega)) (hf_5 _ (by omega))
  have n_5 : NatV E A g_5 (i + 5) 0 := nv_5
  have hfr : ∀ j, (j ≠ i + 4 ∧ j ≠ i + 6 ∧ j ≠ i + 8 ∧ j ≠ i + 10) → g_5 j = g j := fun j hj => (hf_5 j (by omega)).trans (hfr j hj)
  refine lv_aload_n X.1 X.2.1 dX6_bestToLet_8 rfl (lv_at hl 0 rfl) ?_
  refine x_get (C := RX6) (T := TX6) (N := 5) X hW (by omega) h0 rfl lk_0 4 (by decide) lk_2 rfl dX6_bestToLet_9 ?_
  refine x_lconst X 0 (by decide) dX6_bestToLet_12 ?_
  refine x_cv (x_runV (k := 1) (As := [.long (lI (0))]) (rest := []) X hW (c_X5_put l E A n _ g_5 (i + 9) 0 (by omega) n_9 (by decide)) (by omega) n_9.1 rfl gX6_bestToLet_X5_put rfl rfl rfl (by decide +kernel) ⟨by decide, by decide⟩ rfl hl.1 rfl (Nat.le_of_ble_eq_true rfl) dX6_bestToLet_13 ⟨Nat.zero_le _, Nat.zero_le _⟩) hW (fun g_13 H locs hp_13 hW => ?_)
  obtain ⟨nv_13, hf_13⟩ := hp_13
  have h0 : g_13 i = .inr (6, [.ref (A (i + 1)), .ref (A (i + 3)), .ref (A (i + 5)), .ref (A (i + 7)), .ref (A (i + 9))]) := by rw [hf_13 _ (by omega)]; exact h0
  have n_1 : NatV E A g_13 (i + 1) WH := n_1.frame (hf_13 _ (by omega)) (hf_13 _ (by omega))
  have n_3 : NatX E A g_13 (i + 3) := n_3.frame (hf_13 _ (by omega)) (hf_13 _ (by omega))
  have n_5 : NatV E A g_13 (i + 5) 0 := n_5.frame (hf_13 _ (by omega)) (hf_13 _ (by omega))
  have n_7 : NatX E A g_13 (i + 7) := n_7.frame (hf_13 _ (by omega)) (hf_13 _ (by omega))
  have n_9 : NatV E A g_13 (i + 9) 0 := nv_13
  have hfr : ∀ j, (j ≠ i + 4 ∧ j ≠ i + 6 ∧ j ≠ i + 8 ∧ j ≠ i + 10) → g_13 j = g j := fun j hj => (hf_13 j (by omega)).trans (hfr j hj)
  refine x_iconst X dX6_bestToLet_16 ?_
  refine x_seti (((lsB WH nn (nn - nn) : Nat) : Int)) (by rw [Nat.sub_self]; rfl) ?_
  refine lv_istore_n (lv' := [(2, .int (iI (((lsB WH nn (nn - nn) : Nat) : Int)))), (0, .ref (A (i))), (1, .int (iI ((nn : Int))))]) X.1 X.2.1 dX6_bestToLet_17 rfl hl (by decide) rfl (fun ls hl => ?_)
  refine lv_iload_n X.1 X.2.1 dX6_bestToLet_18 rfl (lv_at hl 2 rfl) ?_
  refine x_iconst X dX6_bestToLet_19 ?_
  refine x_isub X dX6_bestToLet_20 ?_
  refine lv_istore_n (lv' := [(3, .int (iI (((nn : Int)) - 1))), (2, .int (iI (((lsB WH nn (nn - nn) : Nat) : Int)))), (0, .ref (A (i))), (1, .int (iI ((nn : Int))))]) X.1 X.2.1 dX6_bestToLet_21 rfl hl (by decide) rfl (fun ls hl => ?_)
  have loop_22 : ∀ (fuel : Nat) (k : Nat) (gw : Nat → va_E) (H : Heap) (locs : List Loc) (ls : Array Slot), (k) < fuel → (k ≤ nn) → (NatV E A gw (i + 1) WH) → (NatX E A gw (i + 3)) → (NatV E A gw (i + 5) (lsS WH nn (nn - k))) → (NatX E A gw (i + 7)) → (NatV E A gw (i + 9) (lsM WH nn (nn - k))) → (∀ j, (j ≠ i + 4 ∧ j ≠ i + 6 ∧ j ≠ i + 8 ∧ j ≠ i + 10) → gw j = g j) → wH E (wF A n sz) A n s gw H locs → lv_has ls 4 [(0, .ref (A (i))), (1, .int (iI ((nn : Int)))), (2, .int (iI (((lsB WH nn (nn - k) : Nat) : Int)))), (3, .int (iI ((k : Int) - 1)))] → W p l e ({ frames := 3, cells := 0, slots := 0, locals := 140 } : Room) s m [.ref (A (i)), .int (iI ((nn : Int)))].toArray below meth c H locs 0 0 (MQ below (va_Qi (fun r g' => r = iI ((lsB WH nn nn : Nat) : Int) ∧ PasV E A g' i WH ∧ ∀ j, (j < i ∨ i + 10 < j) → g' j = g j) (wAt E A n) (wF A n sz)) [.ref (A (i)), .int (iI ((nn : Int)))].toArray s 0 0 (wF A n sz)) (F0 m 22 ls []) := by
    intro fuel
    induction fuel with
    | zero => intro k gw H locs ls hm; exact absurd hm (Nat.not_lt_zero _)
    | succ fuel ih_22 =>
      intro k gw H locs ls hm hk n_1 n_3 n_5 n_7 n_9 hfr hW hl
      have h0 : gw i = .inr (6, [.ref (A (i + 1)), .ref (A (i + 3)), .ref (A (i + 5)), .ref (A (i + 7)), .ref (A (i + 9))]) := (hfr _ (by omega)).trans h0g
      have hVw : PasV E A gw i WH := ⟨h0, n_1, n_3, n_5.any, n_7, n_9.any⟩
      have hsl := lsS_le WH nn (nn - k)
      have hsl2 : (nn - k) * WH ≤ 60 * WH := Nat.mul_le_mul_right _ (by omega)
      refine lv_iload_n X.1 X.2.1 dX6_bestToLet_22 rfl (lv_at hl 3 rfl) ?_
      refine x_if_lt (tgt := 64) X ⟨by omega, by omega⟩ dX6_bestToLet_23 (by decide) (fun b_23 => ?_) (fun b_23 => ?_)
      · refine lv_iload_n X.1 X.2.1 dX6_bestToLet_64 rfl (lv_at hl 2 rfl) ?_
        exact x_iret X hr hlk hW (⟨by rw [show k = 0 from by omega, Nat.sub_zero], ⟨h0, n_1, n_3, n_5.any, n_7, n_9.any⟩, fun j hj => hfr j (by omega)⟩) dX6_bestToLet_65
      · obtain ⟨t, ht⟩ : ∃ t, k = t + 1 := ⟨k - 1, by omega⟩
        have et : nn - 1 - (nn - k) = t := by omega
        have es : nn - t = nn - k + 1 := by omega
        have eS : lsS WH nn (nn - t) = if t = 0 then lsS WH nn (nn - k) else lsS WH nn (nn - k) + WH / t := by rw [es]; show (if nn - 1 - (nn - k) = 0 then _ else _ + WH / (nn - 1 - (nn - k))) = _; rw [et]
        have eW : lsW WH nn (nn - k) = if t = 0 then WH else (lsS WH nn (nn - k) + WH / t) * t := by
          unfold lsW
          rw [et, ← es, eS]
          by_cases q : t = 0
          · rw [if_pos q, if_pos q]
          · rw [if_neg q, if_neg q, if_neg q]
        have eM : lsM WH nn (nn - t) = if lsM WH nn (nn - k) ≤ lsW WH nn (nn - k) then lsW WH nn (nn - k) else lsM WH nn (nn - k) := by rw [es]; rfl
        have eB : lsB WH nn (nn - t) = if lsM WH nn (nn - k) ≤ lsW WH nn (nn - k) then t else lsB WH nn (nn - k) := by rw [es]; show (if _ then nn - 1 - (nn - k) else _) = _; rw [et]
        refine lv_aload_n X.1 X.2.1 dX6_bestToLet_26 rfl (lv_at hl 0 rfl) ?_
        refine lv_iload_n X.1 X.2.1 dX6_bestToLet_27 rfl (lv_at hl 3 rfl) ?_
        refine x_seti ((t : Int)) (by omega) ?_
        refine x_cv (x_runV (k := 1) (As := [.int (iI ((t : Int)))]) (rest := []) X hW (c_X6_letOneLess l E A n _ gw i WH t (lsS WH nn (nn - k)) hi hVw (by omega) n_5 hW30 (by omega)) (by omega) h0 rfl gX6_bestToLet_X6_letOneLess rfl rfl rfl (by decide +kernel) ⟨by decide, by decide⟩ rfl hl.1 rfl (Nat.le_of_ble_eq_true rfl) dX6_bestToLet_28 ⟨Nat.zero_le _, Nat.zero_le _⟩) hW (fun g_28 H locs hp_28 hW => ?_)
        obtain ⟨n_5, n_7, n_3, hf_28⟩ := hp_28
        rw [← eS] at n_5
        rw [← eW] at n_7
        have h0 : g_28 i = .inr (6, [.ref (A (i + 1)), .ref (A (i + 3)), .ref (A (i + 5)), .ref (A (i + 7)), .ref (A (i + 9))]) := by rw [hf_28 _ (by omega)]; exact h0
        have n_1 := n_1.frame (hf_28 _ (by omega)) (hf_28 _ (by omega))
        have n_9 := n_9.frame (hf_28 _ (by omega)) (hf_28 _ (by omega))
        have hfr : ∀ j, (j ≠ i + 4 ∧ j ≠ i + 6 ∧ j ≠ i + 8 ∧ j ≠ i + 10) → g_28 j = g j := fun j hj => (hf_28 j (by omega)).trans (hfr j hj)
        refine lv_aload_n X.1 X.2.1 dX6_bestToLet_31 rfl (lv_at hl 0 rfl) ?_
        refine x_get (C := RX6) (T := TX6) (N := 5) X hW (by omega) h0 rfl lk_0 3 (by decide) lk_3 rfl dX6_bestToLet_32 ?_
        refine lv_aload_n X.1 X.2.1 dX6_bestToLet_35 rfl (lv_at hl 0 rfl) ?_
        refine x_get (C := RX6) (T := TX6) (N := 5) X hW (by omega) h0 rfl lk_0 4 (by decide) lk_2 rfl dX6_bestToLet_36 ?_
        refine x_ci (x_runV (k := 1) (As := [.ref (A (i + 9))]) (rest := []) X hW (c_X5_against l E A n _ g_28 (i + 7) (i + 9) (lsW WH nn (nn - k)) (lsM WH nn (nn - k)) (by omega) (by omega) n_7 n_9) (by omega) n_7.2.1 rfl gX6_bestToLet_X5_against rfl rfl rfl (by decide +kernel) ⟨by decide, by decide⟩ rfl hl.1 rfl (Nat.le_of_ble_eq_true rfl) dX6_bestToLet_39 ⟨Nat.zero_le _, Nat.zero_le _⟩) hW (fun r_39 g_39 H locs hp_39 hW => ?_)
        obtain ⟨hr_39, he_39⟩ := hp_39
        rw [he_39] at hW
        subst hr_39
        refine x_if_lt (tgt := 58) X ⟨by repeat (first | decide | split), by repeat (first | decide | split)⟩ dX6_bestToLet_42 (by decide) (fun b_42 => ?_) (fun b_42 => ?_)
        · have hlt9 : ¬ lsM WH nn (nn - k) ≤ lsW WH nn (nn - k) := fun q => by rw [if_neg (by omega)] at b_42; split at b_42 <;> omega
          rw [if_neg hlt9] at eM eB
          rw [← eM] at n_9
          have hl2 : lv_has ls 4 [(0, .ref (A (i))), (1, .int (iI ((nn : Int)))), (2, .int (iI (((lsB WH nn (nn - t) : Nat) : Int)))), (3, .int (iI ((k : Int) - 1)))] := by rw [eB]; exact hl
          have hl := hl2
          refine lv_iinc (v := iI ((t : Int) - 1)) (lv' := [(3, .int (iI ((t : Int) - 1))), (0, .ref (A (i))), (1, .int (iI ((nn : Int)))), (2, .int (iI (((lsB WH nn (nn - t) : Nat) : Int))))]) X.1 X.2.1 dX6_bestToLet_58 hl (k := 3) rfl (by rw [show (Int32.ofInt (-1)) = iI (-1) from rfl, iI_add]; congr 1; omega) (by decide) rfl (fun ls hl => ?_)
          refine lv_goto (tgt := 22) X.1 X.2.1 dX6_bestToLet_61 (by decide) ?_
          exact ih_22 t g_28 _ _ _ (by omega) (by omega) n_1 n_3 n_5 n_7.any n_9 hfr hW (lv_sub hl [1, 2, 3, 0] rfl)
        · have hge9 : lsM WH nn (nn - k) ≤ lsW WH nn (nn - k) := Decidable.byContradiction (fun q => b_42 (by rw [if_pos (by omega)]; decide))
          rw [if_pos hge9] at eM eB
          refine lv_aload_n X.1 X.2.1 dX6_bestToLet_45 rfl (lv_at hl 0 rfl) ?_
          refine x_get (C := RX6) (T := TX6) (N := 5) X hW (by omega) h0 rfl lk_0 4 (by decide) lk_2 rfl dX6_bestToLet_46 ?_
          refine lv_aload_n X.1 X.2.1 dX6_bestToLet_49 rfl (lv_at hl 0 rfl) ?_
          refine x_get (C := RX6) (T := TX6) (N := 5) X hW (by omega) h0 rfl lk_0 3 (by decide) lk_3 rfl dX6_bestToLet_50 ?_
          refine x_cv (x_runV (k := 1) (As := [.ref (A (i + 7))]) (rest := []) X hW (c_X5_copy l E A n _ g_28 (i + 9) (i + 7) (lsW WH nn (nn - k)) (by omega) (by omega) (by omega) (by omega) (by omega) n_9.any n_7) (by omega) n_9.2.1 rfl gX6_bestToLet_X5_copy rfl rfl rfl (by decide +kernel) ⟨by decide, by decide⟩ rfl hl.1 rfl (Nat.le_of_ble_eq_true rfl) dX6_bestToLet_53 ⟨Nat.zero_le _, Nat.zero_le _⟩) hW (fun g_53 H locs hp_53 hW => ?_)
          obtain ⟨nv_53, hf_53⟩ := hp_53
          have h0 : g_53 i = .inr (6, [.ref (A (i + 1)), .ref (A (i + 3)), .ref (A (i + 5)), .ref (A (i + 7)), .ref (A (i + 9))]) := by rw [hf_53 _ (by omega)]; exact h0
          have n_1 : NatV E A g_53 (i + 1) WH := n_1.frame (hf_53 _ (by omega)) (hf_53 _ (by omega))
          have n_3 : NatX E A g_53 (i + 3) := n_3.frame (hf_53 _ (by omega)) (hf_53 _ (by omega))
          have n_5 : NatV E A g_53 (i + 5) (lsS WH nn (nn - t)) := n_5.frame (hf_53 _ (by omega)) (hf_53 _ (by omega))
          have n_7 : NatV E A g_53 (i + 7) (lsW WH nn (nn - k)) := n_7.frame (hf_53 _ (by omega)) (hf_53 _ (by omega))
          have n_9 : NatV E A g_53 (i + 9) (lsW WH nn (nn - k)) := nv_53
          have hfr : ∀ j, (j ≠ i + 4 ∧ j ≠ i + 6 ∧ j ≠ i + 8 ∧ j ≠ i + 10) → g_53 j = g j := fun j hj => (hf_53 j (by omega)).trans (hfr j hj)
          refine lv_iload_n X.1 X.2.1 dX6_bestToLet_56 rfl (lv_at hl 3 rfl) ?_
          refine lv_istore_n (lv' := [(2, .int (iI ((k : Int) - 1))), (0, .ref (A (i))), (1, .int (iI ((nn : Int)))), (3, .int (iI ((k : Int) - 1)))]) X.1 X.2.1 dX6_bestToLet_57 rfl hl (by decide) rfl (fun ls hl => ?_)
          have hl2 : lv_has ls 4 [(2, .int (iI (((lsB WH nn (nn - t) : Nat) : Int)))), (0, .ref (A (i))), (1, .int (iI ((nn : Int)))), (3, .int (iI ((k : Int) - 1)))] := by rw [eB, show ((t : Nat) : Int) = (k : Int) - 1 from by omega]; exact hl
          rw [← eM] at n_9
          have hl := hl2
          refine lv_iinc (v := iI ((t : Int) - 1)) (lv' := [(3, .int (iI ((t : Int) - 1))), (2, .int (iI (((lsB WH nn (nn - t) : Nat) : Int)))), (0, .ref (A (i))), (1, .int (iI ((nn : Int))))]) X.1 X.2.1 dX6_bestToLet_58 hl (k := 3) rfl (by rw [show (Int32.ofInt (-1)) = iI (-1) from rfl, iI_add]; congr 1; omega) (by decide) rfl (fun ls hl => ?_)
          refine lv_goto (tgt := 22) X.1 X.2.1 dX6_bestToLet_61 (by decide) ?_
          exact ih_22 t g_53 _ _ _ (by omega) (by omega) n_1 n_3 n_5 n_7.any n_9 hfr hW (lv_sub hl [2, 3, 1, 0] rfl)
  exact loop_22 _ nn g_13 _ _ _ (Nat.lt_succ_self _) (Nat.le_refl _) n_1 n_3 (by rw [Nat.sub_self]; exact n_5) n_7 (by rw [Nat.sub_self]; exact n_9) hfr hW (lv_sub hl [2, 3, 1, 0] rfl)
