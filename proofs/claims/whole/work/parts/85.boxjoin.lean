/-! ===== Boxes: the order, join ===== -/

set_option maxHeartbeats 4000000 in
set_option maxRecDepth 100000 in
/-- putInOrder -/
theorem c_X1_putInOrder (l : Launch) (E : wE) (A : Nat → Nat) (n sz : Nat) (g : Nat → va_E) (i k : Nat) (od : Nat → Nat) (P : Nat → Int) (Q : Nat → Nat) (ft fb fo : Nat → Int32) (hi : i + 18 < n) (h0 : g i = .inr (1, [.ref (A (i + 1)), .ref (A (i + 6)), .ref (A (i + 11)), .ref (A (i + 12)), .ref (A (i + 13)), .ref (A (i + 14)), .ref (A (i + 15)), .ref (A (i + 17))])) (hk : k < 6) (h12 : g (i + 12) = aI E 6 ft) (h13 : g (i + 13) = aI E 6 fb) (h14 : g (i + 14) = aI E 6 fo) (hv : ∀ j, j < k + 1 → ft j = iI (P j) ∧ fb j = iI ((Q j : Nat) : Int) ∧ FairR (P j) (Q j)) (hfo : ∀ j, j < k → fo j = iI ((od j : Nat) : Int)) (hS : SortO k od P Q) : Met l yX1_putInOrder wsX1_putInOrder ({ frames := 2, cells := 0, slots := 0, locals := 100 } : Room) (va_Pc [.ref (A (i)), .int (iI ((k : Int)))] (wPre E A n sz g)) (va_Qv (fun g' => (∃ (p : Nat) (fo' : Nat → Int32), p ≤ k ∧ g' (i + 14) = aI E 6 fo' ∧ (∀ j, j < k + 1 → fo' j = iI ((ins od p k j : Nat) : Int)) ∧ SortO (k + 1) (ins od p k) P Q) ∧ ∀ j, j ≠ i + 14 → g' j = g j) (wAt E A n) (wF A n sz)) 0 0 (wF A n sz) := by
  refine x_met (cc := cX1_putInOrder) (maxL := 3) (ret := none) [.ref (A (i)), .int (iI ((k : Int)))] (by decide) rfl (Nat.le_of_ble_eq_true rfl) ?_
  intro p_ e_ s_ m_ below meth c_ ls X hr hlk hnm hsz hW hl
  have hl : lv_has ls 3 [(0, .ref (A (i))), (1, .int (iI ((k : Int))))] := hl
  have lk_0 : ∀ w ∈ wsX10, w ∈ wsX1_putInOrder := by decide +kernel
  have lk_1 : Cond.fieldLink RX1 31 (TX1 5).1 (TX1 5).2.1 (TX1 5).2.2.1 ∈ wsX1_putInOrder := by decide +kernel
  have lk_2 : Cond.fieldLink RX1 25 (TX1 3).1 (TX1 3).2.1 (TX1 3).2.2.1 ∈ wsX1_putInOrder := by decide +kernel
  have lk_3 : Cond.fieldLink RX1 28 (TX1 4).1 (TX1 4).2.1 (TX1 4).2.2.1 ∈ wsX1_putInOrder := by decide +kernel
  have h0g := h0
  have h12g := h12
  have h13g := h13
  obtain ⟨hk1, hk2, hk3⟩ := hv k (by omega)
  obtain ⟨hk4, hk5, hk6, hk7⟩ := id hk3
  refine lv_iload_n X.1 X.2.1 dX1_putInOrder_0 rfl (lv_at hl 1 rfl) ?_
  refine lv_istore_n (lv' := [(2, .int (iI ((k : Int)))), (0, .ref (A (i))), (1, .int (iI ((k : Int))))]) X.1 X.2.1 dX1_putInOrder_1 rfl hl (by decide) rfl (fun ls hl => ?_)
  have loop_2 : ∀ (fuel : Nat) (t : Nat) (f2 : Nat → Int32) (gw : Nat → va_E) (H : Heap) (locs : List Loc) (ls : Array Slot), (t) < fuel → (t ≤ k) → (gw (i + 14) = aI E 6 f2) → (∀ j, f2 j = if t < j ∧ j ≤ k then fo (j - 1) else fo j) → (∀ a, t ≤ a → a < k → P (od a) * (Q k : Int) ≤ P k * (Q (od a) : Int)) → (∀ j, j ≠ i + 14 → gw j = g j) → wH E (wF A n sz) A n s_ gw H locs → lv_has ls 3 [(0, .ref (A (i))), (1, .int (iI ((k : Int)))), (2, .int (iI (((t : Nat) : Int))))] → W p_ l e_ ({ frames := 2, cells := 0, slots := 0, locals := 100 } : Room) s_ m_ [.ref (A (i)), .int (iI ((k : Int)))].toArray below meth c_ H locs 0 0 (MQ below (va_Qv (fun g' => (∃ (p : Nat) (fo' : Nat → Int32), p ≤ k ∧ g' (i + 14) = aI E 6 fo' ∧ (∀ j, j < k + 1 → fo' j = iI ((ins od p k j : Nat) : Int)) ∧ SortO (k + 1) (ins od p k) P Q) ∧ ∀ j, j ≠ i + 14 → g' j = g j) (wAt E A n) (wF A n sz)) [.ref (A (i)), .int (iI ((k : Int)))].toArray s_ 0 0 (wF A n sz)) (F0 m_ 2 ls []) := by
    intro fuel
    induction fuel with
    | zero => intro t f2 gw H locs ls hm; exact absurd hm (Nat.not_lt_zero _)
    | succ fuel ih_2 =>
      intro t f2 gw H locs ls hm ht h14 hsh hup hfr hW hl
      have h0 : gw i = .inr (1, [.ref (A (i + 1)), .ref (A (i + 6)), .ref (A (i + 11)), .ref (A (i + 12)), .ref (A (i + 13)), .ref (A (i + 14)), .ref (A (i + 15)), .ref (A (i + 17))]) := (hfr _ (by omega)).trans h0g
      have h12 : gw (i + 12) = aI E 6 ft := (hfr _ (by omega)).trans h12g
      have h13 : gw (i + 13) = aI E 6 fb := (hfr _ (by omega)).trans h13g
      refine lv_iload_n X.1 X.2.1 dX1_putInOrder_2 rfl (lv_at hl 2 rfl) ?_
      refine x_if_le (tgt := 55) X ⟨by omega, by omega⟩ dX1_putInOrder_3 (by decide) (fun b_3 => ?_) (fun b_3 => ?_)
      · have hB1 : ∀ a, a < t → P k * (Q (od a) : Int) ≤ P (od a) * (Q k : Int) := fun a ha => absurd ha (by omega)
        refine lv_aload_n X.1 X.2.1 dX1_putInOrder_55 rfl (lv_at hl 0 rfl) ?_
        refine x_get (C := RX1) (T := TX1) (N := 8) X hW (by omega) h0 rfl lk_0 5 (by decide) lk_1 rfl dX1_putInOrder_56 ?_
        refine lv_iload_n X.1 X.2.1 dX1_putInOrder_59 rfl (lv_at hl 2 rfl) ?_
        refine lv_iload_n X.1 X.2.1 dX1_putInOrder_60 rfl (lv_at hl 1 rfl) ?_
        refine x_iast X hW (by omega) h14 t (by omega) (by omega) (by decide) dX1_putInOrder_61 (fun g_61 H locs hg_61 hW => ?_)
        have h0 : g_61 i = .inr (1, [.ref (A (i + 1)), .ref (A (i + 6)), .ref (A (i + 11)), .ref (A (i + 12)), .ref (A (i + 13)), .ref (A (i + 14)), .ref (A (i + 15)), .ref (A (i + 17))]) := by rw [hg_61, va_up_ne _ _ (by omega)]; exact h0
        have h12 : g_61 (i + 12) = aI E 6 ft := by rw [hg_61, va_up_ne _ _ (by omega)]; exact h12
        have h13 : g_61 (i + 13) = aI E 6 fb := by rw [hg_61, va_up_ne _ _ (by omega)]; exact h13
        have h14 : g_61 (i + 14) = aI E 6 (upd f2 t (iI ((k : Int)))) := by rw [hg_61]; exact va_up_self _ _ _
        exact x_vret X hr hlk hW (⟨⟨t, _, ht, h14, fun j hj => sh_fin hsh rfl ht hfo hj, SortO_ins hS ht hB1 hup⟩, fun j hj => (show g_61 j = gw j by rw [hg_61, va_up_ne _ _ hj]).trans (hfr j hj)⟩) dX1_putInOrder_62
      · obtain ⟨u, hu⟩ : ∃ u, t = u + 1 := ⟨t - 1, by omega⟩
        have hou := hS.1 u (by omega)
        obtain ⟨hu1, hu2, hu3⟩ := hv (od u) (by omega)
        obtain ⟨hu4, hu5, hu6, hu7⟩ := id hu3
        have hfu : f2 u = iI ((od u : Nat) : Int) := by rw [hsh u, if_neg (by omega)]; exact hfo u (by omega)
        refine lv_aload_n X.1 X.2.1 dX1_putInOrder_6 rfl (lv_at hl 0 rfl) ?_
        refine lv_aload_n X.1 X.2.1 dX1_putInOrder_7 rfl (lv_at hl 0 rfl) ?_
        refine x_get (C := RX1) (T := TX1) (N := 8) X hW (by omega) h0 rfl lk_0 3 (by decide) lk_2 rfl dX1_putInOrder_8 ?_
        refine lv_iload_n X.1 X.2.1 dX1_putInOrder_11 rfl (lv_at hl 1 rfl) ?_
        refine x_iald X hW (by omega) h12 (v := iI (P k)) k (by omega) (by omega) (by decide) hk1 dX1_putInOrder_12 ?_
        refine x_i2l X ⟨by omega, by omega⟩ dX1_putInOrder_13 ?_
        refine lv_aload_n X.1 X.2.1 dX1_putInOrder_14 rfl (lv_at hl 0 rfl) ?_
        refine x_get (C := RX1) (T := TX1) (N := 8) X hW (by omega) h0 rfl lk_0 4 (by decide) lk_3 rfl dX1_putInOrder_15 ?_
        refine lv_iload_n X.1 X.2.1 dX1_putInOrder_18 rfl (lv_at hl 1 rfl) ?_
        refine x_iald X hW (by omega) h13 (v := iI (((Q k : Nat) : Int))) k (by omega) (by omega) (by decide) hk2 dX1_putInOrder_19 ?_
        refine x_i2l X ⟨by omega, by omega⟩ dX1_putInOrder_20 ?_
        refine lv_aload_n X.1 X.2.1 dX1_putInOrder_21 rfl (lv_at hl 0 rfl) ?_
        refine x_get (C := RX1) (T := TX1) (N := 8) X hW (by omega) h0 rfl lk_0 5 (by decide) lk_1 rfl dX1_putInOrder_22 ?_
        refine lv_iload_n X.1 X.2.1 dX1_putInOrder_25 rfl (lv_at hl 2 rfl) ?_
        refine x_iconst X dX1_putInOrder_26 ?_
        refine x_isub X dX1_putInOrder_27 ?_
        refine x_iald X hW (by omega) h14 (v := iI (((od u : Nat) : Int))) u (by omega) (by omega) (by decide) hfu dX1_putInOrder_28 ?_
        refine x_ci (x_runV (k := 3) (As := [.long (lI (P k)), .long (lI (((Q k : Nat) : Int))), .int (iI (((od u : Nat) : Int)))]) (rest := []) X hW (c_X1_isAbove l E A n _ gw i (od u) ft fb (P k) (P (od u)) (Q k) (Q (od u)) hi h0 h12 h13 (by omega) hu1 hu2 hk4 hk5 hk7 hu4 hu5 hu7) (by omega) h0 rfl gX1_putInOrder_X1_isAbove rfl rfl rfl (by decide +kernel) ⟨by decide, by decide⟩ rfl hl.1 rfl (Nat.le_of_ble_eq_true rfl) dX1_putInOrder_29 ⟨Nat.zero_le _, Nat.zero_le _⟩) hW (fun r_29 g_29 H locs hp_29 hW => ?_)
        obtain ⟨hr_29, he_29⟩ := hp_29
        rw [he_29] at hW
        subst hr_29
        refine x_if_eq (tgt := 55) X ⟨by split <;> decide, by split <;> decide⟩ dX1_putInOrder_32 (by decide) (fun b_32 => ?_) (fun b_32 => ?_)
        · have hns : ¬ P (od u) * ((Q k : Nat) : Int) < P k * ((Q (od u) : Nat) : Int) := fun h => by rw [if_pos h] at b_32; omega
          have hB1 : ∀ a, a < t → P k * (Q (od a) : Int) ≤ P (od a) * (Q k : Int) := fun a ha => if ea : a = u then (by rw [ea]; omega) else fr_trans hu6 (by omega) (hS.2.2 a u (by omega) (by omega))
          refine lv_aload_n X.1 X.2.1 dX1_putInOrder_55 rfl (lv_at hl 0 rfl) ?_
          refine x_get (C := RX1) (T := TX1) (N := 8) X hW (by omega) h0 rfl lk_0 5 (by decide) lk_1 rfl dX1_putInOrder_56 ?_
          refine lv_iload_n X.1 X.2.1 dX1_putInOrder_59 rfl (lv_at hl 2 rfl) ?_
          refine lv_iload_n X.1 X.2.1 dX1_putInOrder_60 rfl (lv_at hl 1 rfl) ?_
          refine x_iast X hW (by omega) h14 t (by omega) (by omega) (by decide) dX1_putInOrder_61 (fun g_61 H locs hg_61 hW => ?_)
          have h0 : g_61 i = .inr (1, [.ref (A (i + 1)), .ref (A (i + 6)), .ref (A (i + 11)), .ref (A (i + 12)), .ref (A (i + 13)), .ref (A (i + 14)), .ref (A (i + 15)), .ref (A (i + 17))]) := by rw [hg_61, va_up_ne _ _ (by omega)]; exact h0
          have h12 : g_61 (i + 12) = aI E 6 ft := by rw [hg_61, va_up_ne _ _ (by omega)]; exact h12
          have h13 : g_61 (i + 13) = aI E 6 fb := by rw [hg_61, va_up_ne _ _ (by omega)]; exact h13
          have h14 : g_61 (i + 14) = aI E 6 (upd f2 t (iI ((k : Int)))) := by rw [hg_61]; exact va_up_self _ _ _
          exact x_vret X hr hlk hW (⟨⟨t, _, ht, h14, fun j hj => sh_fin hsh rfl ht hfo hj, SortO_ins hS ht hB1 hup⟩, fun j hj => (show g_61 j = gw j by rw [hg_61, va_up_ne _ _ hj]).trans (hfr j hj)⟩) dX1_putInOrder_62
        · have hys : P (od u) * ((Q k : Nat) : Int) < P k * ((Q (od u) : Nat) : Int) := Decidable.byContradiction (fun h => b_32 (if_neg h))
          refine lv_aload_n X.1 X.2.1 dX1_putInOrder_35 rfl (lv_at hl 0 rfl) ?_
          refine x_get (C := RX1) (T := TX1) (N := 8) X hW (by omega) h0 rfl lk_0 5 (by decide) lk_1 rfl dX1_putInOrder_36 ?_
          refine lv_iload_n X.1 X.2.1 dX1_putInOrder_39 rfl (lv_at hl 2 rfl) ?_
          refine lv_aload_n X.1 X.2.1 dX1_putInOrder_40 rfl (lv_at hl 0 rfl) ?_
          refine x_get (C := RX1) (T := TX1) (N := 8) X hW (by omega) h0 rfl lk_0 5 (by decide) lk_1 rfl dX1_putInOrder_41 ?_
          refine lv_iload_n X.1 X.2.1 dX1_putInOrder_44 rfl (lv_at hl 2 rfl) ?_
          refine x_iconst X dX1_putInOrder_45 ?_
          refine x_isub X dX1_putInOrder_46 ?_
          refine x_iald X hW (by omega) h14 (v := iI (((od u : Nat) : Int))) u (by omega) (by omega) (by decide) hfu dX1_putInOrder_47 ?_
          refine x_iast X hW (by omega) h14 t (by omega) (by omega) (by decide) dX1_putInOrder_48 (fun g_48 H locs hg_48 hW => ?_)
          have h0 : g_48 i = .inr (1, [.ref (A (i + 1)), .ref (A (i + 6)), .ref (A (i + 11)), .ref (A (i + 12)), .ref (A (i + 13)), .ref (A (i + 14)), .ref (A (i + 15)), .ref (A (i + 17))]) := by rw [hg_48, va_up_ne _ _ (by omega)]; exact h0
          have h12 : g_48 (i + 12) = aI E 6 ft := by rw [hg_48, va_up_ne _ _ (by omega)]; exact h12
          have h13 : g_48 (i + 13) = aI E 6 fb := by rw [hg_48, va_up_ne _ _ (by omega)]; exact h13
          have h14 : g_48 (i + 14) = aI E 6 (upd f2 t (iI (((od u : Nat) : Int)))) := by rw [hg_48]; exact va_up_self _ _ _
          refine lv_iinc (v := iI (((u : Nat) : Int))) (lv' := [(2, .int (iI (((u : Nat) : Int)))), (0, .ref (A (i))), (1, .int (iI ((k : Int))))]) X.1 X.2.1 dX1_putInOrder_49 hl (k := 2) rfl (by rw [show (Int32.ofInt (-1)) = iI (-1) from rfl, iI_add]; first | rfl | (congr 1; omega)) (by decide) rfl (fun ls hl => ?_)
          refine lv_goto (tgt := 2) X.1 X.2.1 dX1_putInOrder_52 (by decide) ?_
          exact ih_2 u _ g_48 _ _ _ (by omega) (by omega) h14 (sh_up hsh hu (by omega) (hfo u (by omega)).symm) (fun a h1 h2 => if ea : a = u then (by rw [ea]; omega) else hup a (by omega) h2) (fun j hj => (show g_48 j = gw j by rw [hg_48, va_up_ne _ _ hj]).trans (hfr j hj)) hW (lv_sub hl [1, 2, 0] rfl)
  exact loop_2 _ k fo g _ _ _ (Nat.lt_succ_self _) (Nat.le_refl _) h14 (fun j => by rw [if_neg (by omega)]) (fun a h1 h2 => absurd h1 (by omega)) (fun _ _ => rfl) hW (lv_sub hl [1, 2, 0] rfl)

set_option maxHeartbeats 4000000 in
set_option maxRecDepth 100000 in
/-- size -/
theorem c_X1_size (l : Launch) (E : wE) (A : Nat → Nat) (n sz : Nat) (g : Nat → va_E) (i xz : Nat) (bc px : Nat → Nat) (P : Nat → Int) (Q od : Nat → Nat) (hi : i + 18 < n) (hV : BoxV E A g i xz bc px P Q od) : Met l yX1_size wsX1_size ({ frames := 2, cells := 0, slots := 0, locals := 60 } : Room) (va_Pc [.ref (A (i))] (wPre E A n sz g)) (va_Qi (fun r g' => r = iI (xz : Int) ∧ g' = g) (wAt E A n) (wF A n sz)) 0 0 (wF A n sz) := by
  refine x_met (cc := cX1_size) (maxL := 1) (ret := (some .int)) [.ref (A (i))] (by decide) rfl (Nat.le_of_ble_eq_true rfl) ?_
  intro p_ e_ s_ m_ below meth c_ ls X hr hlk hnm hsz hW hl
  have hl : lv_has ls 1 [(0, .ref (A (i)))] := hl
  have lk_0 : ∀ w ∈ wsX10, w ∈ wsX1_size := by decide +kernel
  have lk_1 : Cond.fieldLink RX1 12 (TX1 0).1 (TX1 0).2.1 (TX1 0).2.2.1 ∈ wsX1_size := by decide +kernel
  obtain ⟨h0, hC, hx6, ⟨oz, ob, hCo⟩, ⟨fp, ft, fb, fo, h11, h12, h13, h14, hv⟩, hS, n_i___15, n_i___17⟩ := id hV
  have hc0 := hC.1
  refine lv_aload_n X.1 X.2.1 dX1_size_0 rfl (lv_at hl 0 rfl) ?_
  refine x_get (C := RX1) (T := TX1) (N := 8) X hW (by omega) h0 rfl lk_0 0 (by decide) lk_1 rfl dX1_size_1 ?_
  refine x_ci (x_runV (k := 0) (As := []) (rest := []) X hW (c_X3_size l E A n _ g (i + 1) xz bc (by omega) hC) (by omega) hc0 rfl gX1_size_X3_size rfl rfl rfl (by decide +kernel) ⟨by decide, by decide⟩ rfl hl.1 rfl (Nat.le_of_ble_eq_true rfl) dX1_size_4 ⟨Nat.zero_le _, Nat.zero_le _⟩) hW (fun r_4 g_4 H locs hp_4 hW => ?_)
  obtain ⟨hr_4, he_4⟩ := hp_4
  rw [he_4] at hW
  subst hr_4
  exact x_iret X hr hlk hW (⟨rfl, rfl⟩) dX1_size_7

set_option maxHeartbeats 4000000 in
set_option maxRecDepth 100000 in
/-- clear -/
theorem c_X1_clear (l : Launch) (E : wE) (A : Nat → Nat) (n sz : Nat) (g : Nat → va_E) (i xz : Nat) (bc px : Nat → Nat) (P : Nat → Int) (Q od : Nat → Nat) (hi : i + 18 < n) (hV : BoxV E A g i xz bc px P Q od) : Met l yX1_clear wsX1_clear ({ frames := 2, cells := 0, slots := 0, locals := 60 } : Room) (va_Pc [.ref (A (i))] (wPre E A n sz g)) (va_Qi (fun r g' => r = iI (xz : Int) ∧ BoxV E A g' i 0 bc px P Q od ∧ ∀ j, j ≠ i + 1 → g' j = g j) (wAt E A n) (wF A n sz)) 0 0 (wF A n sz) := by
  refine x_met (cc := cX1_clear) (maxL := 2) (ret := (some .int)) [.ref (A (i))] (by decide) rfl (Nat.le_of_ble_eq_true rfl) ?_
  intro p_ e_ s_ m_ below meth c_ ls X hr hlk hnm hsz hW hl
  have hl : lv_has ls 2 [(0, .ref (A (i)))] := hl
  have lk_0 : ∀ w ∈ wsX10, w ∈ wsX1_clear := by decide +kernel
  have lk_1 : Cond.fieldLink RX1 12 (TX1 0).1 (TX1 0).2.1 (TX1 0).2.2.1 ∈ wsX1_clear := by decide +kernel
  obtain ⟨h0, hC, hx6, ⟨oz, ob, hCo⟩, ⟨fp, ft, fb, fo, h11, h12, h13, h14, hv⟩, hS, n_i___15, n_i___17⟩ := id hV
  have hc0 := hC.1
  refine lv_aload_n X.1 X.2.1 dX1_clear_0 rfl (lv_at hl 0 rfl) ?_
  refine x_get (C := RX1) (T := TX1) (N := 8) X hW (by omega) h0 rfl lk_0 0 (by decide) lk_1 rfl dX1_clear_1 ?_
  refine x_ci (x_runV (k := 0) (As := []) (rest := []) X hW (c_X3_size l E A n _ g (i + 1) xz bc (by omega) hC) (by omega) hc0 rfl gX1_clear_X3_size rfl rfl rfl (by decide +kernel) ⟨by decide, by decide⟩ rfl hl.1 rfl (Nat.le_of_ble_eq_true rfl) dX1_clear_4 ⟨Nat.zero_le _, Nat.zero_le _⟩) hW (fun r_4 g_4 H locs hp_4 hW => ?_)
  obtain ⟨hr_4, he_4⟩ := hp_4
  rw [he_4] at hW
  subst hr_4
  refine lv_istore_n (lv' := [(1, .int (iI ((xz : Int)))), (0, .ref (A (i)))]) X.1 X.2.1 dX1_clear_7 rfl hl (by decide) rfl (fun ls hl => ?_)
  refine lv_aload_n X.1 X.2.1 dX1_clear_8 rfl (lv_at hl 1 rfl) ?_
  refine x_get (C := RX1) (T := TX1) (N := 8) X hW (by omega) h0 rfl lk_0 0 (by decide) lk_1 rfl dX1_clear_9 ?_
  refine x_cv (x_runV (k := 0) (As := []) (rest := []) X hW (c_X3_clear l E A n _ g (i + 1) xz bc (by omega) hC) (by omega) hc0 rfl gX1_clear_X3_clear rfl rfl rfl (by decide +kernel) ⟨by decide, by decide⟩ rfl hl.1 rfl (Nat.le_of_ble_eq_true rfl) dX1_clear_12 ⟨Nat.zero_le _, Nat.zero_le _⟩) hW (fun g_12 H locs hp_12 hW => ?_)
  obtain ⟨hC2, hf_12⟩ := hp_12
  refine lv_iload_n X.1 X.2.1 dX1_clear_15 rfl (lv_at hl 0 rfl) ?_
  exact x_iret X hr hlk hW (⟨rfl, ⟨(hf_12 _ (by omega)).trans h0, hC2, by omega, ⟨oz, ob, hCo.frame (hf_12 _ (by omega)) (hf_12 _ (by omega))⟩, ⟨fp, ft, fb, fo, (hf_12 _ (by omega)).trans h11, (hf_12 _ (by omega)).trans h12, (hf_12 _ (by omega)).trans h13, (hf_12 _ (by omega)).trans h14, fun k hk => absurd hk (Nat.not_lt_zero _)⟩, ⟨fun k hk => absurd hk (Nat.not_lt_zero _), fun a b _ hb => absurd hb (Nat.not_lt_zero _), fun a b _ hb => absurd hb (Nat.not_lt_zero _)⟩, n_i___15.frame (hf_12 _ (by omega)) (hf_12 _ (by omega)), n_i___17.frame (hf_12 _ (by omega)) (hf_12 _ (by omega))⟩, hf_12⟩) dX1_clear_16

set_option maxHeartbeats 4000000 in
set_option maxRecDepth 100000 in
/-- fairBarInto -/
theorem c_X1_fairBarInto (l : Launch) (E : wE) (A : Nat → Nat) (n sz : Nat) (g : Nat → va_E) (i xz : Nat) (bc px : Nat → Nat) (P : Nat → Int) (Q od : Nat → Nat) (k rc : Nat) (hi : i + 18 < n) (hV : BoxV E A g i xz bc px P Q od) (hk : k < xz) (hrc : rc + 8 < n) (hRX : ResX E A g rc) (hdr : rc + 8 < i ∨ i + 18 < rc) : Met l yX1_fairBarInto wsX1_fairBarInto ({ frames := 6, cells := 0, slots := 0, locals := 300 } : Room) (va_Pc [.ref (A (i)), .int (iI ((k : Int))), .ref (A (rc))] (wPre E A n sz g)) (va_Qv (fun g' => ResV E A g' rc (rdT (P k) (Q k)) (rdB (P k) (Q k)) ∧ BoxV E A g' i xz bc px P Q od ∧ ∀ j, (j < rc ∨ rc + 8 < j) → g' j = g j) (wAt E A n) (wF A n sz)) 0 0 (wF A n sz) := by
  refine x_met (cc := cX1_fairBarInto) (maxL := 3) (ret := none) [.ref (A (i)), .int (iI ((k : Int))), .ref (A (rc))] (by decide) rfl (Nat.le_of_ble_eq_true rfl) ?_
  intro p_ e_ s_ m_ below meth c_ ls X hr hlk hnm hsz hW hl
  have hl : lv_has ls 3 [(0, .ref (A (i))), (1, .int (iI ((k : Int)))), (2, .ref (A (rc)))] := hl
  have lk_0 : Cond.constantLong RX1 85 (5) ∈ wsX1_fairBarInto := by decide +kernel
  have lk_1 : Cond.initialized yX10_isWithin.cls ∈ wsX1_fairBarInto := by decide +kernel
  have lk_2 : Cond.static yX10_isWithin ∈ wsX1_fairBarInto := by decide +kernel
  have lk_3 : ∀ w ∈ wsX10, w ∈ wsX1_fairBarInto := by decide +kernel
  have lk_4 : Cond.fieldLink RX1 25 (TX1 3).1 (TX1 3).2.1 (TX1 3).2.2.1 ∈ wsX1_fairBarInto := by decide +kernel
  have lk_5 : Cond.fieldLink RX1 28 (TX1 4).1 (TX1 4).2.1 (TX1 4).2.2.1 ∈ wsX1_fairBarInto := by decide +kernel
  obtain ⟨h0, hC, hx6, ⟨oz, ob, hCo⟩, ⟨fp, ft, fb, fo, h11, h12, h13, h14, hv⟩, hS, n_i___15, n_i___17⟩ := id hV
  have hc0 := hC.1
  obtain ⟨hv1, hv2, hv3, ⟨hv4, hv5, hv6, hv7⟩, hv8⟩ := hv k hk
  obtain ⟨⟨rz, hr0⟩, _⟩ := id hRX
  refine lv_iload_n X.1 X.2.1 dX1_fairBarInto_0 rfl (lv_at hl 1 rfl) ?_
  refine x_i2l X ⟨by omega, by omega⟩ dX1_fairBarInto_1 ?_
  refine x_lconst X 0 (by decide) dX1_fairBarInto_2 ?_
  refine x_ldc2 X (5) (by decide) lk_0 dX1_fairBarInto_3 ?_
  refine x_ci (x_runSN (k := 3) (As := [.long (lI ((k : Int))), .long (lI (0)), .long (lI (5))]) (rest := []) X hW (c_X10_isWithin l E A n _ g (k : Int) 0 5 ⟨by omega, by omega⟩ I64_0 ⟨by decide, by decide⟩) gX1_fairBarInto_X10_isWithin_n87 rfl rfl rfl (by decide +kernel) lk_1 lk_2 (by decide +kernel) ⟨by decide, by decide⟩ rfl hl.1 rfl (Nat.le_of_ble_eq_true rfl) dX1_fairBarInto_6 ⟨Nat.zero_le _, Nat.zero_le _⟩) hW (fun r_6 g_6 H locs hp_6 hW => ?_)
  obtain ⟨hr_6, he_6⟩ := hp_6
  rw [he_6] at hW
  subst hr_6
  refine x_if_eq (tgt := 28) X ⟨by split <;> decide, by split <;> decide⟩ dX1_fairBarInto_9 (by decide) (fun b_9 => ?_) (fun b_9 => ?_)
  · exact absurd b_9 (by rw [if_pos ⟨by omega, by omega⟩]; decide)
  · refine lv_aload_n X.1 X.2.1 dX1_fairBarInto_12 rfl (lv_at hl 2 rfl) ?_
    refine lv_aload_n X.1 X.2.1 dX1_fairBarInto_13 rfl (lv_at hl 0 rfl) ?_
    refine x_get (C := RX1) (T := TX1) (N := 8) X hW (by omega) h0 rfl lk_3 3 (by decide) lk_4 rfl dX1_fairBarInto_14 ?_
    refine lv_iload_n X.1 X.2.1 dX1_fairBarInto_17 rfl (lv_at hl 1 rfl) ?_
    refine x_iald X hW (by omega) h12 (v := iI (P k)) k (by omega) (by omega) (by decide) hv2 dX1_fairBarInto_18 ?_
    refine lv_aload_n X.1 X.2.1 dX1_fairBarInto_19 rfl (lv_at hl 0 rfl) ?_
    refine x_get (C := RX1) (T := TX1) (N := 8) X hW (by omega) h0 rfl lk_3 4 (by decide) lk_5 rfl dX1_fairBarInto_20 ?_
    refine lv_iload_n X.1 X.2.1 dX1_fairBarInto_23 rfl (lv_at hl 1 rfl) ?_
    refine x_iald X hW (by omega) h13 (v := iI (((Q k : Nat) : Int))) k (by omega) (by omega) (by decide) hv3 dX1_fairBarInto_24 ?_
    refine x_cv (x_runV (k := 2) (As := [.int (iI (P k)), .int (iI (((Q k : Nat) : Int)))]) (rest := []) X hW (c_X8_putSmall l E A n _ g rc (P k) (Q k) hrc ⟨by omega, by omega⟩ (by omega) (by omega) hRX) (by omega) hr0 rfl gX1_fairBarInto_X8_putSmall rfl rfl rfl (by decide +kernel) ⟨by decide, by decide⟩ rfl hl.1 rfl (Nat.le_of_ble_eq_true rfl) dX1_fairBarInto_25 ⟨Nat.zero_le _, Nat.zero_le _⟩) hW (fun g_25 H locs hp_25 hW => ?_)
    obtain ⟨hRv, hf_25⟩ := hp_25
    exact x_vret X hr hlk hW (⟨hRv, hV.frame (fun j h1 h2 => hf_25 j (by omega)), hf_25⟩) dX1_fairBarInto_28

set_option maxHeartbeats 4000000 in
set_option maxRecDepth 100000 in
/-- join -/
theorem c_X1_join (l : Launch) (E : wE) (A : Nat → Nat) (n sz : Nat) (g : Nat → va_E) (i xz : Nat) (bc px : Nat → Nat) (P : Nat → Int) (Q od : Nat → Nat) (b0 p0 : Nat) (L0 : List (Nat × Nat)) (hi : i + 18 < n) (hV : BoxV E A g i xz bc px P Q od) (hb0 : b0 + 2 < n) (hBV : BookV E A g b0 L0) (hb1 : b0 + 2 < i ∨ i + 18 < b0) (hp0 : p0 ≤ 1000) (htp : 0 < bE L0 (fun _ => 1)) : Met l yX1_join wsX1_join ({ frames := 5, cells := 0, slots := 0, locals := 200 } : Room) (va_Pc [.ref (A (i)), .ref (A (b0)), .int (iI ((p0 : Int)))] (wPre E A n sz g)) (va_Qi (fun r g' => (xz = 6 → r = iI (-8) ∧ g' = g) ∧ (xz < 6 → r = iI (xz : Int) ∧ (∃ (P0 : Int) (Q0 : Nat) (od' : Nat → Nat), FairV L0 ((p0 * bE L0 (fun _ => 1) : Nat) : Int) P0 Q0 ∧ BoxV E A g' i (xz + 1) (va_up bc xz b0) (va_up px xz p0) (va_up P xz P0) (va_up Q xz Q0) od') ∧ ∀ j, (j < i ∨ i + 18 < j) → g' j = g j)) (wAt E A n) (wF A n sz)) 0 0 (wF A n sz) := by
  refine x_met (cc := cX1_join) (maxL := 4) (ret := (some .int)) [.ref (A (i)), .ref (A (b0)), .int (iI ((p0 : Int)))] (by decide) rfl (Nat.le_of_ble_eq_true rfl) ?_
  intro p_ e_ s_ m_ below meth c_ ls X hr hlk hnm hsz hW hl
  have hl : lv_has ls 4 [(0, .ref (A (i))), (1, .ref (A (b0))), (2, .int (iI ((p0 : Int))))] := hl
  have lk_0 : ∀ w ∈ wsX10, w ∈ wsX1_join := by decide +kernel
  have lk_1 : Cond.fieldLink RX1 12 (TX1 0).1 (TX1 0).2.1 (TX1 0).2.2.1 ∈ wsX1_join := by decide +kernel
  have lk_2 : Cond.fieldLink RX1 21 (TX1 2).1 (TX1 2).2.1 (TX1 2).2.2.1 ∈ wsX1_join := by decide +kernel
  obtain ⟨h0, hC, hx6, ⟨oz, ob, hCo⟩, ⟨fp, ft, fb, fo, h11, h12, h13, h14, hv⟩, hS, n_i___15, n_i___17⟩ := id hV
  have hc0 := hC.1
  obtain ⟨bzb, wob, web, totb, hbcb, _⟩ := id hBV
  have hB0 := hbcb.1
  obtain ⟨fs, hfs⟩ : ∃ fs, fs = [Value.ref (A (b0 + 1)), Value.ref (A (b0 + 2)), Value.int (iI (bzb : Int)), Value.int (iI (totb : Int))] := ⟨_, rfl⟩
  rw [← hfs] at hB0
  refine lv_aload_n X.1 X.2.1 dX1_join_0 rfl (lv_at hl 0 rfl) ?_
  refine x_get (C := RX1) (T := TX1) (N := 8) X hW (by omega) h0 rfl lk_0 0 (by decide) lk_1 rfl dX1_join_1 ?_
  refine x_ci (x_runV (k := 0) (As := []) (rest := []) X hW (c_X3_size l E A n _ g (i + 1) xz bc (by omega) hC) (by omega) hc0 rfl gX1_join_X3_size rfl rfl rfl (by decide +kernel) ⟨by decide, by decide⟩ rfl hl.1 rfl (Nat.le_of_ble_eq_true rfl) dX1_join_4 ⟨Nat.zero_le _, Nat.zero_le _⟩) hW (fun r_4 g_4 H locs hp_4 hW => ?_)
  obtain ⟨hr_4, he_4⟩ := hp_4
  rw [he_4] at hW
  subst hr_4
  refine lv_istore_n (lv' := [(3, .int (iI ((xz : Int)))), (0, .ref (A (i))), (1, .ref (A (b0))), (2, .int (iI ((p0 : Int))))]) X.1 X.2.1 dX1_join_7 rfl hl (by decide) rfl (fun ls hl => ?_)
  refine lv_iload_n X.1 X.2.1 dX1_join_8 rfl (lv_at hl 0 rfl) ?_
  refine x_bipush X (by decide) dX1_join_9 ?_
  refine x_icmp_lt (tgt := 17) X ⟨by omega, by omega⟩ ⟨by decide, by decide⟩ dX1_join_11 (by decide) (fun b_11 => ?_) (fun b_11 => ?_)
  · refine lv_aload_n X.1 X.2.1 dX1_join_17 rfl (lv_at hl 1 rfl) ?_
    refine x_get (C := RX1) (T := TX1) (N := 8) X hW (by omega) h0 rfl lk_0 0 (by decide) lk_1 rfl dX1_join_18 ?_
    refine lv_aload_n X.1 X.2.1 dX1_join_21 rfl (lv_at hl 2 rfl) ?_
    refine x_cv (x_runV (k := 1) (As := [.ref (A (b0))]) (rest := []) X hW (c_X3_join l E A n _ g (i + 1) xz bc b0 fs (by omega) hC (by omega) (by omega) hB0 (by omega)) (by omega) hc0 rfl gX1_join_X3_join rfl rfl rfl (by decide +kernel) ⟨by decide, by decide⟩ rfl hl.1 rfl (Nat.le_of_ble_eq_true rfl) dX1_join_22 ⟨Nat.zero_le _, Nat.zero_le _⟩) hW (fun g_22 H locs hp_22 hW => ?_)
    obtain ⟨hC2, hf_22⟩ := hp_22
    have hq22 : ∀ j, (j ≠ i + 1 ∧ j ≠ i + 5) → g_22 j = g j := fun j hj => hf_22 j hj.1 (by omega)
    have h0 : g_22 i = .inr (1, [.ref (A (i + 1)), .ref (A (i + 6)), .ref (A (i + 11)), .ref (A (i + 12)), .ref (A (i + 13)), .ref (A (i + 14)), .ref (A (i + 15)), .ref (A (i + 17))]) := (hq22 _ (by omega)).trans h0
    have h11 : g_22 (i + 11) = aI E 6 fp := (hq22 _ (by omega)).trans h11
    have h12 : g_22 (i + 12) = aI E 6 ft := (hq22 _ (by omega)).trans h12
    have h13 : g_22 (i + 13) = aI E 6 fb := (hq22 _ (by omega)).trans h13
    have h14 : g_22 (i + 14) = aI E 6 fo := (hq22 _ (by omega)).trans h14
    refine lv_aload_n X.1 X.2.1 dX1_join_25 rfl (lv_at hl 1 rfl) ?_
    refine x_get (C := RX1) (T := TX1) (N := 8) X hW (by omega) h0 rfl lk_0 2 (by decide) lk_2 rfl dX1_join_26 ?_
    refine lv_iload_n X.1 X.2.1 dX1_join_29 rfl (lv_at hl 0 rfl) ?_
    refine lv_iload_n X.1 X.2.1 dX1_join_30 rfl (lv_at hl 3 rfl) ?_
    refine x_iast X hW (by omega) h11 xz (by omega) (by omega) (by decide) dX1_join_31 (fun g_31 H locs hg_31 hW => ?_)
    have h0 : g_31 i = .inr (1, [.ref (A (i + 1)), .ref (A (i + 6)), .ref (A (i + 11)), .ref (A (i + 12)), .ref (A (i + 13)), .ref (A (i + 14)), .ref (A (i + 15)), .ref (A (i + 17))]) := by rw [hg_31, va_up_ne _ _ (by omega)]; exact h0
    have h12 : g_31 (i + 12) = aI E 6 ft := by rw [hg_31, va_up_ne _ _ (by omega)]; exact h12
    have h13 : g_31 (i + 13) = aI E 6 fb := by rw [hg_31, va_up_ne _ _ (by omega)]; exact h13
    have h14 : g_31 (i + 14) = aI E 6 fo := by rw [hg_31, va_up_ne _ _ (by omega)]; exact h14
    have h11 : g_31 (i + 11) = aI E 6 (upd fp xz (iI ((p0 : Int)))) := by rw [hg_31]; exact va_up_self _ _ _
    refine lv_aload_n X.1 X.2.1 dX1_join_32 rfl (lv_at hl 1 rfl) ?_
    refine lv_iload_n X.1 X.2.1 dX1_join_33 rfl (lv_at hl 0 rfl) ?_
    have hq31 : ∀ j, (j ≠ i + 1 ∧ j ≠ i + 5 ∧ j ≠ i + 11) → g_31 j = g j := fun j hj => (show g_31 j = g_22 j by rw [hg_31, va_up_ne _ _ (by omega)]).trans (hq22 j (by omega))
    have hC3 : CrowdV E A g_31 (i + 1) (xz + 1) (va_up bc xz b0) := hC2.frame (by rw [hg_31, va_up_ne _ _ (by omega)]) (by rw [hg_31, va_up_ne _ _ (by omega)])
    have hbu : va_up bc xz b0 xz = b0 := va_up_self _ _ _
    refine x_cv (x_runV (k := 1) (As := [.int (iI ((xz : Int)))]) (rest := []) X hW (c_X1_findFairBar l E A n _ g_31 i (xz + 1) xz (va_up bc xz b0) L0 p0 _ ft fb hi h0 hC3 (by omega) (by omega) (by rw [hbu]; omega) (by rw [hbu]; exact hBV.frame (hq31 _ (by omega)) (hq31 _ (by omega)) (hq31 _ (by omega))) (by rw [hbu]; omega) h11 h12 h13 upd_s hp0 htp) (by omega) h0 rfl gX1_join_X1_findFairBar rfl rfl rfl (by decide +kernel) ⟨by decide, by decide⟩ rfl hl.1 rfl (Nat.le_of_ble_eq_true rfl) dX1_join_34 ⟨Nat.zero_le _, Nat.zero_le _⟩) hW (fun g_34 H locs hp_34 hW => ?_)
    obtain ⟨⟨P0, Q0, ft2, fb2, hF0, hR0, h12, h13, hP0, hQ0, ho2⟩, hf_34⟩ := hp_34
    have h0 : g_34 i = .inr (1, [.ref (A (i + 1)), .ref (A (i + 6)), .ref (A (i + 11)), .ref (A (i + 12)), .ref (A (i + 13)), .ref (A (i + 14)), .ref (A (i + 15)), .ref (A (i + 17))]) := (hf_34 _ (by omega)).trans h0
    have h11 : g_34 (i + 11) = aI E 6 (upd fp xz (iI ((p0 : Int)))) := (hf_34 _ (by omega)).trans h11
    have h14 : g_34 (i + 14) = aI E 6 fo := (hf_34 _ (by omega)).trans h14
    refine lv_aload_n X.1 X.2.1 dX1_join_37 rfl (lv_at hl 1 rfl) ?_
    refine lv_iload_n X.1 X.2.1 dX1_join_38 rfl (lv_at hl 0 rfl) ?_
    have hv2 : ∀ j, j < xz + 1 → ft2 j = iI (va_up P xz P0 j) ∧ fb2 j = iI ((va_up Q xz Q0 j : Nat) : Int) ∧ FairR (va_up P xz P0 j) (va_up Q xz Q0 j) := fun j hj => if ej : j = xz then (by rw [ej, va_up_self, va_up_self]; exact ⟨hP0, hQ0, hR0⟩) else (by rw [va_up_ne _ _ ej, va_up_ne _ _ ej, (ho2 j ej).1, (ho2 j ej).2]; obtain ⟨_, a2, a3, a4, _⟩ := hv j (by omega); exact ⟨a2, a3, a4⟩)
    have hS2 : SortO xz od (va_up P xz P0) (va_up Q xz Q0) := ⟨hS.1, hS.2.1, fun a b hab hb => by have e1 := hS.1 a (by omega); have e2 := hS.1 b hb; rw [va_up_ne _ _ (show od a ≠ xz by omega), va_up_ne _ _ (show od b ≠ xz by omega), va_up_ne _ _ (show od a ≠ xz by omega), va_up_ne _ _ (show od b ≠ xz by omega)]; exact hS.2.2 a b hab hb⟩
    refine x_cv (x_runV (k := 1) (As := [.int (iI ((xz : Int)))]) (rest := []) X hW (c_X1_putInOrder l E A n _ g_34 i xz od (va_up P xz P0) (va_up Q xz Q0) ft2 fb2 fo hi h0 (by omega) h12 h13 h14 hv2 (fun j hj => (hv j hj).2.2.2.2) hS2) (by omega) h0 rfl gX1_join_X1_putInOrder rfl rfl rfl (by decide +kernel) ⟨by decide, by decide⟩ rfl hl.1 rfl (Nat.le_of_ble_eq_true rfl) dX1_join_39 ⟨Nat.zero_le _, Nat.zero_le _⟩) hW (fun g_39 H locs hp_39 hW => ?_)
    obtain ⟨⟨pz, fo2, hpz, h14, hfo2, hS3⟩, hf_39⟩ := hp_39
    have h0 : g_39 i = .inr (1, [.ref (A (i + 1)), .ref (A (i + 6)), .ref (A (i + 11)), .ref (A (i + 12)), .ref (A (i + 13)), .ref (A (i + 14)), .ref (A (i + 15)), .ref (A (i + 17))]) := (hf_39 _ (by omega)).trans h0
    have h11 : g_39 (i + 11) = aI E 6 (upd fp xz (iI ((p0 : Int)))) := (hf_39 _ (by omega)).trans h11
    have h12 : g_39 (i + 12) = aI E 6 ft2 := (hf_39 _ (by omega)).trans h12
    have h13 : g_39 (i + 13) = aI E 6 fb2 := (hf_39 _ (by omega)).trans h13
    have hq39 : ∀ j, (j < i ∨ i + 18 < j ∨ j = i ∨ (i + 6 ≤ j ∧ j ≤ i + 10) ∨ i + 15 ≤ j) → g_39 j = g j := fun j hj => (hf_39 j (by omega)).trans ((hf_34 j (by omega)).trans (hq31 j (by omega)))
    have hC4 : CrowdV E A g_39 (i + 1) (xz + 1) (va_up bc xz b0) := hC3.frame ((hf_39 _ (by omega)).trans (hf_34 _ (by omega))) ((hf_39 _ (by omega)).trans (hf_34 _ (by omega)))
    refine lv_iload_n X.1 X.2.1 dX1_join_42 rfl (lv_at hl 0 rfl) ?_
    exact x_iret X hr hlk hW (⟨fun h => absurd b_11 (by omega), fun _ => ⟨rfl, ⟨P0, Q0, _, hF0, ⟨h0, hC4, by omega, ⟨oz, ob, hCo.frame (hq39 _ (by omega)) (hq39 _ (by omega))⟩, ⟨_, _, _, _, h11, h12, h13, h14, fun k hk => ⟨if ek : k = xz then (by rw [ek, va_up_self, upd_s]; exact ⟨hp0, rfl⟩) else (by rw [va_up_ne _ _ ek, upd_n ek]; exact (hv k (by omega)).1), (hv2 k hk).1, (hv2 k hk).2.1, (hv2 k hk).2.2, hfo2 k hk⟩⟩, hS3, n_i___15.frame (hq39 _ (by omega)) (hq39 _ (by omega)), n_i___17.frame (hq39 _ (by omega)) (hq39 _ (by omega))⟩⟩, fun j hj => hq39 j (by omega)⟩⟩) dX1_join_43
  · refine x_bipush X (by decide) dX1_join_14 ?_
    exact x_iret X hr hlk hW (⟨fun _ => ⟨rfl, rfl⟩, fun h => absurd b_11 (by omega)⟩) dX1_join_16
