/-! ===== the reference's rows ===== -/
def RowsM (E : wE) (A : Nat → Nat) (g : Nat → va_E) (i : Nat) (rw rl : Nat → Int) (nm : Nat → Nat → Int) : Prop := ∃ (fe fw : Nat → Int32) (fn : Nat → Int64), g (i + 2) = aI E 10 fe ∧ g (i + 3) = aI E 10 fw ∧ g (i + 4) = aJ E 400 fn ∧ ∀ k, k < 10 → (-1 ≤ rl k ∧ rl k ≤ 40) ∧ fe k = iI (rl k + 1) ∧ (rl k ≠ -1 → (0 ≤ rw k ∧ rw k ≤ 3) ∧ fw k = iI (rw k) ∧ ∀ t : Nat, (t : Int) < rl k → I64 (nm k t) ∧ fn (40 * k + t) = lI (nm k t))
theorem RowsM.frame {E : wE} {A : Nat → Nat} {g g' : Nat → va_E} {i : Nat} {rw rl : Nat → Int} {nm : Nat → Nat → Int} (h : RowsM E A g i rw rl nm) (h2 : g' (i + 2) = g (i + 2)) (h3 : g' (i + 3) = g (i + 3)) (h4 : g' (i + 4) = g (i + 4)) : RowsM E A g' i rw rl nm := by
  obtain ⟨fe, fw, fn, a, b, c, d⟩ := h
  exact ⟨fe, fw, fn, h2.trans a, h3.trans b, h4.trans c, d⟩
def rowR (z w m : Int) : Int := if (0 ≤ z ∧ z ≤ 9) ∧ (0 ≤ w ∧ w ≤ 3) ∧ m ≤ 40 then (if m < 0 then -3 else 0) else -2
theorem upd_s {f : Nat → Int32} {k : Nat} {v : Int32} : upd f k v k = v := by unfold upd; rw [if_pos rfl]
theorem upd_n {f : Nat → Int32} {k j : Nat} {v : Int32} (h : j ≠ k) : upd f k v j = f j := by unfold upd; rw [if_neg h]

set_option maxHeartbeats 4000000 in
set_option maxRecDepth 100000 in
/-- isSlot -/
theorem c_X11_isSlot (l : Launch) (E : wE) (A : Nat → Nat) (n sz : Nat) (g : Nat → va_E) (z : Int) (hz : I32 z) : Met l yX11_isSlot wsX11_isSlot ({ frames := 1, cells := 0, slots := 0, locals := 30 } : Room) (va_Pc [.int (iI (z))] (wPre E A n sz g)) (va_Qi (fun r g' => r = iI (if 0 ≤ z ∧ z ≤ 9 then 1 else 0) ∧ g' = g) (wAt E A n) (wF A n sz)) 0 0 (wF A n sz) := by
  refine x_met (cc := cX11_isSlot) (maxL := 1) (ret := (some .boolean)) [.int (iI (z))] (by decide) rfl (Nat.le_of_ble_eq_true rfl) ?_
  intro p e s m below meth c ls X hr hlk hnm hsz hW hl
  have hl : lv_has ls 1 [(0, .int (iI (z)))] := hl
  refine lv_iload_n X.1 X.2.1 dX11_isSlot_0 rfl (lv_at hl 0 rfl) ?_
  refine x_if_lt (tgt := 14) X hz dX11_isSlot_1 (by decide) (fun b_1 => ?_) (fun b_1 => ?_)
  · refine x_iconst X dX11_isSlot_14 ?_
    exact x_zret X hr hlk (by decide) hW (⟨by rw [if_neg (by omega)], rfl⟩) dX11_isSlot_15
  · refine lv_iload_n X.1 X.2.1 dX11_isSlot_4 rfl (lv_at hl 0 rfl) ?_
    refine x_bipush X (by decide) dX11_isSlot_5 ?_
    refine x_icmp_gt (tgt := 14) X hz ⟨by decide, by decide⟩ dX11_isSlot_7 (by decide) (fun b_7 => ?_) (fun b_7 => ?_)
    · refine x_iconst X dX11_isSlot_14 ?_
      exact x_zret X hr hlk (by decide) hW (⟨by rw [if_neg (by omega)], rfl⟩) dX11_isSlot_15
    · refine x_iconst X dX11_isSlot_10 ?_
      refine lv_goto (tgt := 15) X.1 X.2.1 dX11_isSlot_11 (by decide) ?_
      exact x_zret X hr hlk (by decide) hW (⟨by rw [if_pos (by omega)], rfl⟩) dX11_isSlot_15

theorem rowsM_lay {fe fw : Nat → Int32} {fn fm : Nat → Int64} {rw rl : Nat → Int} {nm : Nat → Nat → Int} {z w m9 : Int} (hv : ∀ k, k < 10 → (-1 ≤ rl k ∧ rl k ≤ 40) ∧ fe k = iI (rl k + 1) ∧ (rl k ≠ -1 → (0 ≤ rw k ∧ rw k ≤ 3) ∧ fw k = iI (rw k) ∧ ∀ t : Nat, (t : Int) < rl k → I64 (nm k t) ∧ fn (40 * k + t) = lI (nm k t))) (hz : 0 ≤ z ∧ z ≤ 9) (h1 : 0 ≤ w) (h2 : w ≤ 3) (h3 : 0 ≤ m9) (h4 : m9 ≤ 40) (h0 : ∀ j : Nat, (j : Int) < m9 → fm (40 * z.toNat + j) = lI 0) (ho : ∀ j, (j < 40 * z.toNat ∨ 40 * z.toNat + 40 ≤ j) → fm j = fn j) : ∀ k, k < 10 → (-1 ≤ va_up rl z.toNat m9 k ∧ va_up rl z.toNat m9 k ≤ 40) ∧ upd fe z.toNat (iI (m9 + 1)) k = iI (va_up rl z.toNat m9 k + 1) ∧ (va_up rl z.toNat m9 k ≠ -1 → (0 ≤ va_up rw z.toNat w k ∧ va_up rw z.toNat w k ≤ 3) ∧ upd fw z.toNat (iI (w)) k = iI (va_up rw z.toNat w k) ∧ ∀ t : Nat, (t : Int) < va_up rl z.toNat m9 k → I64 (va_up nm z.toNat (fun _ => 0) k t) ∧ fm (40 * k + t) = lI (va_up nm z.toNat (fun _ => 0) k t)) := by
  intro k hk
  by_cases e : k = z.toNat
  · subst e
    rw [va_up_self, va_up_self, va_up_self, upd_s, upd_s]
    exact ⟨⟨by omega, h4⟩, rfl, fun _ => ⟨⟨h1, h2⟩, rfl, fun t ht => ⟨I64_0, h0 t ht⟩⟩⟩
  · rw [va_up_ne _ _ e, va_up_ne _ _ e, va_up_ne _ _ e, upd_n e, upd_n e]
    obtain ⟨a1, a2, a3⟩ := hv k hk
    refine ⟨a1, a2, fun h => ?_⟩
    obtain ⟨b1, b2, b3⟩ := a3 h
    refine ⟨b1, b2, fun t ht => ?_⟩
    rw [ho _ (by omega)]
    exact b3 t ht

set_option maxHeartbeats 4000000 in
set_option maxRecDepth 100000 in
/-- row -/
theorem c_X11_row (l : Launch) (E : wE) (A : Nat → Nat) (n sz : Nat) (g : Nat → va_E) (i : Nat) (q : Nat → Int) (rw rl : Nat → Int) (nm : Nat → Nat → Int) (z w m9 : Int) (hi : i + 16 < n) (hO : g i = mO A i q) (hR : RowsM E A g i rw rl nm) (hz : I32 z) (hw : I32 w) (hm6 : I32 m9) : Met l yX11_row wsX11_row ({ frames := 2, cells := 0, slots := 0, locals := 80 } : Room) (va_Pc [.ref (A (i)), .int (iI (z)), .int (iI (w)), .int (iI (m9))] (wPre E A n sz g)) (va_Qi (fun r g' => r = iI (rowR z w m9) ∧ (rowR z w m9 = 0 → RowsM E A g' i (va_up rw z.toNat w) (va_up rl z.toNat m9) (va_up nm z.toNat (fun _ => 0))) ∧ (rowR z w m9 ≠ 0 → g' = g) ∧ ∀ j, (j ≠ i + 2 ∧ j ≠ i + 3 ∧ j ≠ i + 4) → g' j = g j) (wAt E A n) (wF A n sz)) 0 0 (wF A n sz) := by
  refine x_met (cc := cX11_row) (maxL := 5) (ret := (some .int)) [.ref (A (i)), .int (iI (z)), .int (iI (w)), .int (iI (m9))] (by decide) rfl (Nat.le_of_ble_eq_true rfl) ?_
  intro p e s m below meth c ls X hr hlk hnm hsz hW hl
  have hl : lv_has ls 5 [(0, .ref (A (i))), (1, .int (iI (z))), (2, .int (iI (w))), (3, .int (iI (m9)))] := hl
  have lk_0 : ∀ w ∈ wsX110, w ∈ wsX11_row := by decide +kernel
  have lk_1 : Cond.fieldLink RX11 14 (TX11 1).1 (TX11 1).2.1 (TX11 1).2.2.1 ∈ wsX11_row := by decide +kernel
  have lk_2 : Cond.fieldLink RX11 18 (TX11 2).1 (TX11 2).2.1 (TX11 2).2.2.1 ∈ wsX11_row := by decide +kernel
  have lk_3 : Cond.fieldLink RX11 21 (TX11 3).1 (TX11 3).2.1 (TX11 3).2.2.1 ∈ wsX11_row := by decide +kernel
  have hO : g i = .inr (11, [.ref (A (i + 1)), .ref (A (i + 2)), .ref (A (i + 3)), .ref (A (i + 4)), .int (iI (q 0)), .ref (A (i + 5)), .ref (A (i + 6)), .ref (A (i + 7)), .ref (A (i + 8)), .int (iI (q 1)), .ref (A (i + 9)), .ref (A (i + 10)), .ref (A (i + 11)), .int (iI (q 2)), .ref (A (i + 12)), .ref (A (i + 13)), .int (iI (q 3)), .ref (A (i + 14)), .ref (A (i + 15)), .ref (A (i + 16)), .int (iI (q 4))]) := hO
  obtain ⟨fe, fw, fn, h2, h3, h4, hv⟩ := hR
  have hz1 := hz.1
  have hz2 := hz.2
  refine lv_iload_n X.1 X.2.1 dX11_row_0 rfl (lv_at hl 1 rfl) ?_
  refine x_ci (x_runS (k := 1) (As := [.int (iI (z))]) (rest := []) X hW (c_X11_isSlot l E A n _ g z hz) gX11_row_X11_isSlot rfl rfl rfl (by decide +kernel) ⟨by decide, by decide⟩ rfl hl.1 rfl (Nat.le_of_ble_eq_true rfl) dX11_row_1 ⟨Nat.zero_le _, Nat.zero_le _⟩) hW (fun r_1 g_1 H locs hp_1 hW => ?_)
  obtain ⟨hr_1, he_1⟩ := hp_1
  rw [he_1] at hW
  subst hr_1
  refine x_if_eq (tgt := 22) X ⟨by split <;> decide, by split <;> decide⟩ dX11_row_4 (by decide) (fun b_4 => ?_) (fun b_4 => ?_)
  · have hs : ¬ (0 ≤ z ∧ z ≤ 9) := fun h => by rw [if_pos h] at b_4; omega
    refine x_bipush X (by decide) dX11_row_22 ?_
    exact x_iret X hr hlk hW (⟨by unfold rowR; rw [if_neg (by omega)], fun h => by unfold rowR at h; rw [if_neg (by omega)] at h; omega, fun _ => rfl, fun _ _ => rfl⟩) dX11_row_24
  · have hs : 0 ≤ z ∧ z ≤ 9 := Decidable.byContradiction (fun h => by rw [if_neg h] at b_4; exact b_4 rfl)
    refine lv_iload_n X.1 X.2.1 dX11_row_7 rfl (lv_at hl 2 rfl) ?_
    refine x_if_lt (tgt := 22) X hw dX11_row_8 (by decide) (fun b_8 => ?_) (fun b_8 => ?_)
    · refine x_bipush X (by decide) dX11_row_22 ?_
      exact x_iret X hr hlk hW (⟨by unfold rowR; rw [if_neg (by omega)], fun h => by unfold rowR at h; rw [if_neg (by omega)] at h; omega, fun _ => rfl, fun _ _ => rfl⟩) dX11_row_24
    · refine lv_iload_n X.1 X.2.1 dX11_row_11 rfl (lv_at hl 2 rfl) ?_
      refine x_iconst X dX11_row_12 ?_
      refine x_icmp_gt (tgt := 22) X hw ⟨by decide, by decide⟩ dX11_row_13 (by decide) (fun b_13 => ?_) (fun b_13 => ?_)
      · refine x_bipush X (by decide) dX11_row_22 ?_
        exact x_iret X hr hlk hW (⟨by unfold rowR; rw [if_neg (by omega)], fun h => by unfold rowR at h; rw [if_neg (by omega)] at h; omega, fun _ => rfl, fun _ _ => rfl⟩) dX11_row_24
      · refine lv_iload_n X.1 X.2.1 dX11_row_16 rfl (lv_at hl 3 rfl) ?_
        refine x_bipush X (by decide) dX11_row_17 ?_
        refine x_icmp_le (tgt := 25) X hm6 ⟨by decide, by decide⟩ dX11_row_19 (by decide) (fun b_19 => ?_) (fun b_19 => ?_)
        · refine lv_iload_n X.1 X.2.1 dX11_row_25 rfl (lv_at hl 3 rfl) ?_
          refine x_if_ge (tgt := 32) X hm6 dX11_row_26 (by decide) (fun b_26 => ?_) (fun b_26 => ?_)
          · have hR0 : rowR z w m9 = 0 := by unfold rowR; rw [if_pos (by omega), if_neg (by omega)]
            refine lv_aload_n X.1 X.2.1 dX11_row_32 rfl (lv_at hl 0 rfl) ?_
            refine x_get (C := RX11) (T := TX11) (N := 21) X hW (by omega) hO rfl lk_0 1 (by decide) lk_1 rfl dX11_row_33 ?_
            refine lv_iload_n X.1 X.2.1 dX11_row_36 rfl (lv_at hl 1 rfl) ?_
            refine lv_iload_n X.1 X.2.1 dX11_row_37 rfl (lv_at hl 3 rfl) ?_
            refine x_iconst X dX11_row_38 ?_
            refine x_iadd X dX11_row_39 ?_
            refine x_iast X hW (by omega) h2 z.toNat (by omega) (by omega) (by decide) dX11_row_40 (fun g_40 H locs hg_40 hW => ?_)
            have hO : g_40 i = .inr (11, [.ref (A (i + 1)), .ref (A (i + 2)), .ref (A (i + 3)), .ref (A (i + 4)), .int (iI (q 0)), .ref (A (i + 5)), .ref (A (i + 6)), .ref (A (i + 7)), .ref (A (i + 8)), .int (iI (q 1)), .ref (A (i + 9)), .ref (A (i + 10)), .ref (A (i + 11)), .int (iI (q 2)), .ref (A (i + 12)), .ref (A (i + 13)), .int (iI (q 3)), .ref (A (i + 14)), .ref (A (i + 15)), .ref (A (i + 16)), .int (iI (q 4))]) := by rw [hg_40, va_up_ne _ _ (by omega)]; exact hO
            have h3 : g_40 (i + 3) = aI E 10 fw := by rw [hg_40, va_up_ne _ _ (by omega)]; exact h3
            have h4 : g_40 (i + 4) = aJ E 400 fn := by rw [hg_40, va_up_ne _ _ (by omega)]; exact h4
            have h2 : g_40 (i + 2) = aI E 10 (upd fe z.toNat (iI (m9 + 1))) := by rw [hg_40]; exact va_up_self _ _ _
            refine lv_aload_n X.1 X.2.1 dX11_row_41 rfl (lv_at hl 0 rfl) ?_
            refine x_get (C := RX11) (T := TX11) (N := 21) X hW (by omega) hO rfl lk_0 2 (by decide) lk_2 rfl dX11_row_42 ?_
            refine lv_iload_n X.1 X.2.1 dX11_row_45 rfl (lv_at hl 1 rfl) ?_
            refine lv_iload_n X.1 X.2.1 dX11_row_46 rfl (lv_at hl 2 rfl) ?_
            refine x_iast X hW (by omega) h3 z.toNat (by omega) (by omega) (by decide) dX11_row_47 (fun g_47 H locs hg_47 hW => ?_)
            have hO : g_47 i = .inr (11, [.ref (A (i + 1)), .ref (A (i + 2)), .ref (A (i + 3)), .ref (A (i + 4)), .int (iI (q 0)), .ref (A (i + 5)), .ref (A (i + 6)), .ref (A (i + 7)), .ref (A (i + 8)), .int (iI (q 1)), .ref (A (i + 9)), .ref (A (i + 10)), .ref (A (i + 11)), .int (iI (q 2)), .ref (A (i + 12)), .ref (A (i + 13)), .int (iI (q 3)), .ref (A (i + 14)), .ref (A (i + 15)), .ref (A (i + 16)), .int (iI (q 4))]) := by rw [hg_47, va_up_ne _ _ (by omega)]; exact hO
            have h2 : g_47 (i + 2) = aI E 10 (upd fe z.toNat (iI (m9 + 1))) := by rw [hg_47, va_up_ne _ _ (by omega)]; exact h2
            have h4 : g_47 (i + 4) = aJ E 400 fn := by rw [hg_47, va_up_ne _ _ (by omega)]; exact h4
            have h3 : g_47 (i + 3) = aI E 10 (upd fw z.toNat (iI (w))) := by rw [hg_47]; exact va_up_self _ _ _
            refine x_iconst X dX11_row_48 ?_
            refine lv_istore (lv' := [(4, .int (iI (0))), (0, .ref (A (i))), (1, .int (iI (z))), (2, .int (iI (w))), (3, .int (iI (m9)))]) X.1 X.2.1 dX11_row_49 hl (by decide) rfl (fun ls hl => ?_)
            have loop_51 : ∀ (fuel : Nat) (t : Nat) (fm : Nat → Int64) (gw : Nat → va_E) (H : Heap) (locs : List Loc) (ls : Array Slot), (m9.toNat - t) < fuel → ((t : Int) ≤ m9) → (gw i = .inr (11, [.ref (A (i + 1)), .ref (A (i + 2)), .ref (A (i + 3)), .ref (A (i + 4)), .int (iI (q 0)), .ref (A (i + 5)), .ref (A (i + 6)), .ref (A (i + 7)), .ref (A (i + 8)), .int (iI (q 1)), .ref (A (i + 9)), .ref (A (i + 10)), .ref (A (i + 11)), .int (iI (q 2)), .ref (A (i + 12)), .ref (A (i + 13)), .int (iI (q 3)), .ref (A (i + 14)), .ref (A (i + 15)), .ref (A (i + 16)), .int (iI (q 4))])) → (gw (i + 2) = aI E 10 (upd fe z.toNat (iI (m9 + 1)))) → (gw (i + 3) = aI E 10 (upd fw z.toNat (iI (w)))) → (gw (i + 4) = aJ E 400 fm) → (∀ j, j < t → fm (40 * z.toNat + j) = lI 0) → (∀ j, (j < 40 * z.toNat ∨ 40 * z.toNat + 40 ≤ j) → fm j = fn j) → (∀ j, (j ≠ i + 2 ∧ j ≠ i + 3 ∧ j ≠ i + 4) → gw j = g j) → wH E (wF A n sz) A n s gw H locs → lv_has ls 5 [(0, .ref (A (i))), (1, .int (iI (z))), (2, .int (iI (w))), (3, .int (iI (m9))), (4, .int (iI ((t : Int))))] → W p l e ({ frames := 2, cells := 0, slots := 0, locals := 80 } : Room) s m [.ref (A (i)), .int (iI (z)), .int (iI (w)), .int (iI (m9))].toArray below meth c H locs 0 0 (MQ below (va_Qi (fun r g' => r = iI (rowR z w m9) ∧ (rowR z w m9 = 0 → RowsM E A g' i (va_up rw z.toNat w) (va_up rl z.toNat m9) (va_up nm z.toNat (fun _ => 0))) ∧ (rowR z w m9 ≠ 0 → g' = g) ∧ ∀ j, (j ≠ i + 2 ∧ j ≠ i + 3 ∧ j ≠ i + 4) → g' j = g j) (wAt E A n) (wF A n sz)) [.ref (A (i)), .int (iI (z)), .int (iI (w)), .int (iI (m9))].toArray s 0 0 (wF A n sz)) (F0 m 51 ls []) := by
              intro fuel
              induction fuel with
              | zero => intro t fm gw H locs ls hm; exact absurd hm (Nat.not_lt_zero _)
              | succ fuel ih_51 =>
                intro t fm gw H locs ls hm ht hO h2 h3 h4 hz0 ho hfr hW hl
                refine lv_iload X.1 X.2.1 dX11_row_51 (lv_at hl 4 rfl) ?_
                refine lv_iload_n X.1 X.2.1 dX11_row_53 rfl (lv_at hl 3 rfl) ?_
                refine x_icmp_ge (tgt := 76) X ⟨by omega, by omega⟩ hm6 dX11_row_54 (by decide) (fun b_54 => ?_) (fun b_54 => ?_)
                · refine x_iconst X dX11_row_76 ?_
                  exact x_iret X hr hlk hW (⟨by rw [hR0], fun _ => ⟨_, _, fm, h2, h3, h4, rowsM_lay hv hs (by omega) (by omega) (by omega) (by omega) (fun j hj => hz0 j (by omega)) ho⟩, fun h => absurd hR0 h, hfr⟩) dX11_row_77
                · refine lv_aload_n X.1 X.2.1 dX11_row_57 rfl (lv_at hl 0 rfl) ?_
                  refine x_get (C := RX11) (T := TX11) (N := 21) X hW (by omega) hO rfl lk_0 3 (by decide) lk_3 rfl dX11_row_58 ?_
                  refine x_bipush X (by decide) dX11_row_61 ?_
                  refine lv_iload_n X.1 X.2.1 dX11_row_63 rfl (lv_at hl 1 rfl) ?_
                  refine x_imul X dX11_row_64 ?_
                  refine lv_iload X.1 X.2.1 dX11_row_65 (lv_at hl 4 rfl) ?_
                  refine x_iadd X dX11_row_67 ?_
                  refine x_lconst X 0 (by decide) dX11_row_68 ?_
                  refine x_last X hW (by omega) h4 (40 * z.toNat + t) (by omega) (by omega) (by decide) dX11_row_69 (fun g_69 H locs hg_69 hW => ?_)
                  have hO : g_69 i = .inr (11, [.ref (A (i + 1)), .ref (A (i + 2)), .ref (A (i + 3)), .ref (A (i + 4)), .int (iI (q 0)), .ref (A (i + 5)), .ref (A (i + 6)), .ref (A (i + 7)), .ref (A (i + 8)), .int (iI (q 1)), .ref (A (i + 9)), .ref (A (i + 10)), .ref (A (i + 11)), .int (iI (q 2)), .ref (A (i + 12)), .ref (A (i + 13)), .int (iI (q 3)), .ref (A (i + 14)), .ref (A (i + 15)), .ref (A (i + 16)), .int (iI (q 4))]) := by rw [hg_69, va_up_ne _ _ (by omega)]; exact hO
                  have h2 : g_69 (i + 2) = aI E 10 (upd fe z.toNat (iI (m9 + 1))) := by rw [hg_69, va_up_ne _ _ (by omega)]; exact h2
                  have h3 : g_69 (i + 3) = aI E 10 (upd fw z.toNat (iI (w))) := by rw [hg_69, va_up_ne _ _ (by omega)]; exact h3
                  have h4 : g_69 (i + 4) = aJ E 400 (vp_updL fm (40 * z.toNat + t) (lI (0))) := by rw [hg_69]; exact va_up_self _ _ _
                  refine lv_iinc (v := iI (((t + 1 : Nat) : Int))) (lv' := [(4, .int (iI (((t + 1 : Nat) : Int)))), (0, .ref (A (i))), (1, .int (iI (z))), (2, .int (iI (w))), (3, .int (iI (m9)))]) X.1 X.2.1 dX11_row_70 hl (k := 4) rfl (by rw [show (Int32.ofInt (1)) = iI (1) from rfl, iI_add]; rfl) (by decide) rfl (fun ls hl => ?_)
                  refine lv_goto (tgt := 51) X.1 X.2.1 dX11_row_73 (by decide) ?_
                  exact ih_51 (t + 1) _ g_69 _ _ _ (by omega) (by omega) hO h2 h3 h4 (fun j hj => if ej : j = t then (by rw [ej, pk_uLs]) else (by rw [pk_uLn (by omega)]; exact hz0 j (by omega))) (fun j hj => by rw [pk_uLn (by omega)]; exact ho j hj) (fun j hj => by rw [hg_69, va_up_ne _ _ (by omega)]; exact hfr j hj) hW (lv_sub hl [1, 2, 3, 4, 0] rfl)
            exact loop_51 _ 0 fn g_47 _ _ _ (Nat.lt_succ_self _) (by omega) hO h2 h3 h4 (fun j hj => absurd hj (Nat.not_lt_zero _)) (fun _ _ => rfl) (fun j hj => by rw [hg_47, va_up_ne _ _ (by omega), hg_40, va_up_ne _ _ (by omega)]) hW (lv_sub hl [1, 2, 3, 4, 0] rfl)
          · refine x_bipush X (by decide) dX11_row_29 ?_
            exact x_iret X hr hlk hW (⟨by unfold rowR; rw [if_pos (by omega), if_pos (by omega)], fun h => by unfold rowR at h; rw [if_pos (by omega), if_pos (by omega)] at h; omega, fun _ => rfl, fun _ _ => rfl⟩) dX11_row_31
        · refine x_bipush X (by decide) dX11_row_22 ?_
          exact x_iret X hr hlk hW (⟨by unfold rowR; rw [if_neg (by omega)], fun h => by unfold rowR at h; rw [if_neg (by omega)] at h; omega, fun _ => rfl, fun _ _ => rfl⟩) dX11_row_24

theorem rowsM_tear {fe fw : Nat → Int32} {fn : Nat → Int64} {rw rl : Nat → Int} {nm : Nat → Nat → Int} {z : Int} (hv : ∀ k, k < 10 → (-1 ≤ rl k ∧ rl k ≤ 40) ∧ fe k = iI (rl k + 1) ∧ (rl k ≠ -1 → (0 ≤ rw k ∧ rw k ≤ 3) ∧ fw k = iI (rw k) ∧ ∀ t : Nat, (t : Int) < rl k → I64 (nm k t) ∧ fn (40 * k + t) = lI (nm k t))) : ∀ k, k < 10 → (-1 ≤ va_up rl z.toNat (-1) k ∧ va_up rl z.toNat (-1) k ≤ 40) ∧ upd fe z.toNat (iI 0) k = iI (va_up rl z.toNat (-1) k + 1) ∧ (va_up rl z.toNat (-1) k ≠ -1 → (0 ≤ rw k ∧ rw k ≤ 3) ∧ fw k = iI (rw k) ∧ ∀ t : Nat, (t : Int) < va_up rl z.toNat (-1) k → I64 (nm k t) ∧ fn (40 * k + t) = lI (nm k t)) := by
  intro k hk
  by_cases e : k = z.toNat
  · subst e
    rw [va_up_self, upd_s]
    exact ⟨⟨by omega, by omega⟩, rfl, fun h => absurd rfl h⟩
  · rw [va_up_ne _ _ e, upd_n e]
    exact hv k hk

set_option maxHeartbeats 4000000 in
set_option maxRecDepth 100000 in
/-- tear -/
theorem c_X11_tear (l : Launch) (E : wE) (A : Nat → Nat) (n sz : Nat) (g : Nat → va_E) (i : Nat) (q : Nat → Int) (rw rl : Nat → Int) (nm : Nat → Nat → Int) (z : Int) (hi : i + 16 < n) (hO : g i = mO A i q) (hR : RowsM E A g i rw rl nm) (hz : I32 z) : Met l yX11_tear wsX11_tear ({ frames := 2, cells := 0, slots := 0, locals := 80 } : Room) (va_Pc [.ref (A (i)), .int (iI (z))] (wPre E A n sz g)) (va_Qi (fun r g' => r = iI (if (0 ≤ z ∧ z ≤ 9) ∧ rl z.toNat ≠ -1 then 1 else 0) ∧ ((0 ≤ z ∧ z ≤ 9) ∧ rl z.toNat ≠ -1 → RowsM E A g' i rw (va_up rl z.toNat (-1)) nm) ∧ (¬ ((0 ≤ z ∧ z ≤ 9) ∧ rl z.toNat ≠ -1) → g' = g) ∧ ∀ j, (j ≠ i + 2 ∧ j ≠ i + 3 ∧ j ≠ i + 4) → g' j = g j) (wAt E A n) (wF A n sz)) 0 0 (wF A n sz) := by
  refine x_met (cc := cX11_tear) (maxL := 2) (ret := (some .boolean)) [.ref (A (i)), .int (iI (z))] (by decide) rfl (Nat.le_of_ble_eq_true rfl) ?_
  intro p e s m below meth c ls X hr hlk hnm hsz hW hl
  have hl : lv_has ls 2 [(0, .ref (A (i))), (1, .int (iI (z)))] := hl
  have lk_0 : ∀ w ∈ wsX110, w ∈ wsX11_tear := by decide +kernel
  have lk_1 : Cond.fieldLink RX11 14 (TX11 1).1 (TX11 1).2.1 (TX11 1).2.2.1 ∈ wsX11_tear := by decide +kernel
  have hO : g i = .inr (11, [.ref (A (i + 1)), .ref (A (i + 2)), .ref (A (i + 3)), .ref (A (i + 4)), .int (iI (q 0)), .ref (A (i + 5)), .ref (A (i + 6)), .ref (A (i + 7)), .ref (A (i + 8)), .int (iI (q 1)), .ref (A (i + 9)), .ref (A (i + 10)), .ref (A (i + 11)), .int (iI (q 2)), .ref (A (i + 12)), .ref (A (i + 13)), .int (iI (q 3)), .ref (A (i + 14)), .ref (A (i + 15)), .ref (A (i + 16)), .int (iI (q 4))]) := hO
  obtain ⟨fe, fw, fn, h2, h3, h4, hv⟩ := hR
  have hz1 := hz.1
  have hz2 := hz.2
  refine lv_iload_n X.1 X.2.1 dX11_tear_0 rfl (lv_at hl 1 rfl) ?_
  refine x_ci (x_runS (k := 1) (As := [.int (iI (z))]) (rest := []) X hW (c_X11_isSlot l E A n _ g z hz) gX11_tear_X11_isSlot rfl rfl rfl (by decide +kernel) ⟨by decide, by decide⟩ rfl hl.1 rfl (Nat.le_of_ble_eq_true rfl) dX11_tear_1 ⟨Nat.zero_le _, Nat.zero_le _⟩) hW (fun r_1 g_1 H locs hp_1 hW => ?_)
  obtain ⟨hr_1, he_1⟩ := hp_1
  rw [he_1] at hW
  subst hr_1
  refine x_if_eq (tgt := 16) X ⟨by split <;> decide, by split <;> decide⟩ dX11_tear_4 (by decide) (fun b_4 => ?_) (fun b_4 => ?_)
  · have hs : ¬ (0 ≤ z ∧ z ≤ 9) := fun h => by rw [if_pos h] at b_4; omega
    refine x_iconst X dX11_tear_16 ?_
    exact x_zret X hr hlk (by decide) hW (⟨by rw [if_neg (by omega)], fun h => absurd h (by omega), fun _ => rfl, fun _ _ => rfl⟩) dX11_tear_17
  · have hs : 0 ≤ z ∧ z ≤ 9 := Decidable.byContradiction (fun h => by rw [if_neg h] at b_4; exact b_4 rfl)
    have hvz := hv z.toNat (by omega)
    refine lv_aload_n X.1 X.2.1 dX11_tear_7 rfl (lv_at hl 0 rfl) ?_
    refine x_get (C := RX11) (T := TX11) (N := 21) X hW (by omega) hO rfl lk_0 1 (by decide) lk_1 rfl dX11_tear_8 ?_
    refine lv_iload_n X.1 X.2.1 dX11_tear_11 rfl (lv_at hl 1 rfl) ?_
    refine x_iald X hW (by omega) h2 (v := iI (rl z.toNat + 1)) z.toNat (by omega) (by omega) (by decide) ((hv z.toNat (by omega)).2.1) dX11_tear_12 ?_
    refine x_if_ne (tgt := 18) X ⟨by omega, by omega⟩ dX11_tear_13 (by decide) (fun b_13 => ?_) (fun b_13 => ?_)
    · refine lv_aload_n X.1 X.2.1 dX11_tear_18 rfl (lv_at hl 0 rfl) ?_
      refine x_get (C := RX11) (T := TX11) (N := 21) X hW (by omega) hO rfl lk_0 1 (by decide) lk_1 rfl dX11_tear_19 ?_
      refine lv_iload_n X.1 X.2.1 dX11_tear_22 rfl (lv_at hl 1 rfl) ?_
      refine x_iconst X dX11_tear_23 ?_
      refine x_iast X hW (by omega) h2 z.toNat (by omega) (by omega) (by decide) dX11_tear_24 (fun g_24 H locs hg_24 hW => ?_)
      have hO : g_24 i = .inr (11, [.ref (A (i + 1)), .ref (A (i + 2)), .ref (A (i + 3)), .ref (A (i + 4)), .int (iI (q 0)), .ref (A (i + 5)), .ref (A (i + 6)), .ref (A (i + 7)), .ref (A (i + 8)), .int (iI (q 1)), .ref (A (i + 9)), .ref (A (i + 10)), .ref (A (i + 11)), .int (iI (q 2)), .ref (A (i + 12)), .ref (A (i + 13)), .int (iI (q 3)), .ref (A (i + 14)), .ref (A (i + 15)), .ref (A (i + 16)), .int (iI (q 4))]) := by rw [hg_24, va_up_ne _ _ (by omega)]; exact hO
      have h3 : g_24 (i + 3) = aI E 10 fw := by rw [hg_24, va_up_ne _ _ (by omega)]; exact h3
      have h4 : g_24 (i + 4) = aJ E 400 fn := by rw [hg_24, va_up_ne _ _ (by omega)]; exact h4
      have h2 : g_24 (i + 2) = aI E 10 (upd fe z.toNat (iI (0))) := by rw [hg_24]; exact va_up_self _ _ _
      refine x_iconst X dX11_tear_25 ?_
      exact x_zret X hr hlk (by decide) hW (⟨by rw [if_pos (by omega)], fun _ => ⟨_, fw, fn, h2, h3, h4, rowsM_tear hv⟩, fun h => absurd (show (0 ≤ z ∧ z ≤ 9) ∧ rl z.toNat ≠ -1 by omega) h, fun j hj => by rw [hg_24, va_up_ne _ _ (by omega)]⟩) dX11_tear_26
    · refine x_iconst X dX11_tear_16 ?_
      exact x_zret X hr hlk (by decide) hW (⟨by rw [if_neg (by omega)], fun h => absurd h (by omega), fun _ => rfl, fun _ _ => rfl⟩) dX11_tear_17

def wrR (rl : Nat → Int) (z k : Int) : Int := if 0 ≤ z ∧ z ≤ 9 then (if rl z.toNat = -1 then -5 else if 0 ≤ k ∧ k ≤ rl z.toNat - 1 then 0 else -6) else -2
theorem rowsM_write {fe fw : Nat → Int32} {fn : Nat → Int64} {rw rl : Nat → Int} {nm : Nat → Nat → Int} {z k : Int} {v : Int64} (hv : ∀ k, k < 10 → (-1 ≤ rl k ∧ rl k ≤ 40) ∧ fe k = iI (rl k + 1) ∧ (rl k ≠ -1 → (0 ≤ rw k ∧ rw k ≤ 3) ∧ fw k = iI (rw k) ∧ ∀ t : Nat, (t : Int) < rl k → I64 (nm k t) ∧ fn (40 * k + t) = lI (nm k t))) (hz : 0 ≤ z ∧ z ≤ 9) (hk : 0 ≤ k ∧ k ≤ rl z.toNat - 1) {v2 : Int64} (he : v2 = v) : ∀ j, j < 10 → (-1 ≤ rl j ∧ rl j ≤ 40) ∧ fe j = iI (rl j + 1) ∧ (rl j ≠ -1 → (0 ≤ rw j ∧ rw j ≤ 3) ∧ fw j = iI (rw j) ∧ ∀ t : Nat, (t : Int) < rl j → I64 (va_up nm z.toNat (va_up (nm z.toNat) k.toNat v.toInt) j t) ∧ vp_updL fn (40 * z.toNat + k.toNat) v2 (40 * j + t) = lI (va_up nm z.toNat (va_up (nm z.toNat) k.toNat v.toInt) j t)) := by
  intro j hj
  obtain ⟨a1, a2, a3⟩ := hv j hj
  have hz3 := hv z.toNat (by omega)
  refine ⟨a1, a2, fun h => ?_⟩
  obtain ⟨b1, b2, b3⟩ := a3 h
  refine ⟨b1, b2, fun t ht => ?_⟩
  by_cases e : j = z.toNat
  · subst e
    rw [va_up_self]
    by_cases e2 : t = k.toNat
    · subst e2
      rw [va_up_self, pk_uLs, he]
      exact ⟨I64_of _, (lI_of _)⟩
    · rw [va_up_ne _ _ e2, pk_uLn (by omega)]
      exact b3 t ht
  · rw [va_up_ne _ _ e, pk_uLn (by omega)]
    exact b3 t ht

set_option maxHeartbeats 4000000 in
set_option maxRecDepth 100000 in
/-- write -/
theorem c_X11_write (l : Launch) (E : wE) (A : Nat → Nat) (n sz : Nat) (g : Nat → va_E) (i : Nat) (q : Nat → Int) (rw rl : Nat → Int) (nm : Nat → Nat → Int) (z k v : Int) (hi : i + 16 < n) (hO : g i = mO A i q) (hR : RowsM E A g i rw rl nm) (hz : I32 z) (hk : I32 k) (hv8 : I64 v) : Met l yX11_write wsX11_write ({ frames := 2, cells := 0, slots := 0, locals := 80 } : Room) (va_Pc [.ref (A (i)), .int (iI (z)), .int (iI (k)), .long (lI (v))] (wPre E A n sz g)) (va_Qi (fun r g' => r = iI (wrR rl z k) ∧ (wrR rl z k = 0 → RowsM E A g' i rw rl (va_up nm z.toNat (va_up (nm z.toNat) k.toNat (cutL (rw z.toNat) (lI v)).toInt))) ∧ (wrR rl z k ≠ 0 → g' = g) ∧ ∀ j, (j ≠ i + 2 ∧ j ≠ i + 3 ∧ j ≠ i + 4) → g' j = g j) (wAt E A n) (wF A n sz)) 0 0 (wF A n sz) := by
  refine x_met (cc := cX11_write) (maxL := 6) (ret := (some .int)) [.ref (A (i)), .int (iI (z)), .int (iI (k)), .long (lI (v))] (by decide) rfl (Nat.le_of_ble_eq_true rfl) ?_
  intro p e s m below meth c ls X hr hlk hnm hsz hW hl
  have hl : lv_has ls 6 [(0, .ref (A (i))), (1, .int (iI (z))), (2, .int (iI (k))), (3, .long (lI (v)))] := hl
  have lk_0 : ∀ w ∈ wsX110, w ∈ wsX11_write := by decide +kernel
  have lk_1 : Cond.fieldLink RX11 14 (TX11 1).1 (TX11 1).2.1 (TX11 1).2.2.1 ∈ wsX11_write := by decide +kernel
  have lk_2 : Cond.fieldLink RX11 18 (TX11 2).1 (TX11 2).2.1 (TX11 2).2.2.1 ∈ wsX11_write := by decide +kernel
  have lk_3 : Cond.fieldLink RX11 21 (TX11 3).1 (TX11 3).2.1 (TX11 3).2.2.1 ∈ wsX11_write := by decide +kernel
  have hO : g i = .inr (11, [.ref (A (i + 1)), .ref (A (i + 2)), .ref (A (i + 3)), .ref (A (i + 4)), .int (iI (q 0)), .ref (A (i + 5)), .ref (A (i + 6)), .ref (A (i + 7)), .ref (A (i + 8)), .int (iI (q 1)), .ref (A (i + 9)), .ref (A (i + 10)), .ref (A (i + 11)), .int (iI (q 2)), .ref (A (i + 12)), .ref (A (i + 13)), .int (iI (q 3)), .ref (A (i + 14)), .ref (A (i + 15)), .ref (A (i + 16)), .int (iI (q 4))]) := hO
  obtain ⟨fe, fw, fn, h2, h3, h4, hv⟩ := hR
  have hz1 := hz.1
  have hz2 := hz.2
  refine lv_iload_n X.1 X.2.1 dX11_write_0 rfl (lv_at hl 1 rfl) ?_
  refine x_ci (x_runS (k := 1) (As := [.int (iI (z))]) (rest := []) X hW (c_X11_isSlot l E A n _ g z hz) gX11_write_X11_isSlot rfl rfl rfl (by decide +kernel) ⟨by decide, by decide⟩ rfl hl.1 rfl (Nat.le_of_ble_eq_true rfl) dX11_write_1 ⟨Nat.zero_le _, Nat.zero_le _⟩) hW (fun r_1 g_1 H locs hp_1 hW => ?_)
  obtain ⟨hr_1, he_1⟩ := hp_1
  rw [he_1] at hW
  subst hr_1
  refine x_if_ne (tgt := 10) X ⟨by split <;> decide, by split <;> decide⟩ dX11_write_4 (by decide) (fun b_4 => ?_) (fun b_4 => ?_)
  · have hs : 0 ≤ z ∧ z ≤ 9 := Decidable.byContradiction (fun h => by rw [if_neg h] at b_4; exact b_4 rfl)
    have hvz := hv z.toNat (by omega)
    refine lv_aload_n X.1 X.2.1 dX11_write_10 rfl (lv_at hl 0 rfl) ?_
    refine x_get (C := RX11) (T := TX11) (N := 21) X hW (by omega) hO rfl lk_0 1 (by decide) lk_1 rfl dX11_write_11 ?_
    refine lv_iload_n X.1 X.2.1 dX11_write_14 rfl (lv_at hl 1 rfl) ?_
    refine x_iald X hW (by omega) h2 (v := iI (rl z.toNat + 1)) z.toNat (by omega) (by omega) (by decide) ((hv z.toNat (by omega)).2.1) dX11_write_15 ?_
    refine x_if_ne (tgt := 22) X ⟨by omega, by omega⟩ dX11_write_16 (by decide) (fun b_16 => ?_) (fun b_16 => ?_)
    · refine lv_iload_n X.1 X.2.1 dX11_write_22 rfl (lv_at hl 2 rfl) ?_
      refine x_if_lt (tgt := 38) X hk dX11_write_23 (by decide) (fun b_23 => ?_) (fun b_23 => ?_)
      · refine x_bipush X (by decide) dX11_write_38 ?_
        exact x_iret X hr hlk hW (⟨by unfold wrR; rw [if_pos hs, if_neg (by omega), if_neg (by omega)], fun h => by unfold wrR at h; rw [if_pos hs, if_neg (by omega), if_neg (by omega)] at h; omega, fun _ => rfl, fun _ _ => rfl⟩) dX11_write_40
      · refine lv_iload_n X.1 X.2.1 dX11_write_26 rfl (lv_at hl 2 rfl) ?_
        refine lv_aload_n X.1 X.2.1 dX11_write_27 rfl (lv_at hl 0 rfl) ?_
        refine x_get (C := RX11) (T := TX11) (N := 21) X hW (by omega) hO rfl lk_0 1 (by decide) lk_1 rfl dX11_write_28 ?_
        refine lv_iload_n X.1 X.2.1 dX11_write_31 rfl (lv_at hl 1 rfl) ?_
        refine x_iald X hW (by omega) h2 (v := iI (rl z.toNat + 1)) z.toNat (by omega) (by omega) (by decide) ((hv z.toNat (by omega)).2.1) dX11_write_32 ?_
        refine x_iconst X dX11_write_33 ?_
        refine x_isub X dX11_write_34 ?_
        refine x_icmp_lt (tgt := 41) X hk ⟨by omega, by omega⟩ dX11_write_35 (by decide) (fun b_35 => ?_) (fun b_35 => ?_)
        · obtain ⟨hw9, hfw, _⟩ := hvz.2.2 (by omega)
          have hR0 : wrR rl z k = 0 := by unfold wrR; rw [if_pos hs, if_neg (by omega), if_pos (by omega)]
          refine lv_aload_n X.1 X.2.1 dX11_write_41 rfl (lv_at hl 0 rfl) ?_
          refine x_get (C := RX11) (T := TX11) (N := 21) X hW (by omega) hO rfl lk_0 2 (by decide) lk_2 rfl dX11_write_42 ?_
          refine lv_iload_n X.1 X.2.1 dX11_write_45 rfl (lv_at hl 1 rfl) ?_
          refine x_iald X hW (by omega) h3 (v := iI (rw z.toNat)) z.toNat (by omega) (by omega) (by decide) hfw dX11_write_46 ?_
          refine lv_istore (lv' := [(5, .int (iI (rw z.toNat))), (0, .ref (A (i))), (1, .int (iI (z))), (2, .int (iI (k))), (3, .long (lI (v)))]) X.1 X.2.1 dX11_write_47 hl (by decide) rfl (fun ls hl => ?_)
          refine lv_aload_n X.1 X.2.1 dX11_write_49 rfl (lv_at hl 1 rfl) ?_
          refine x_get (C := RX11) (T := TX11) (N := 21) X hW (by omega) hO rfl lk_0 3 (by decide) lk_3 rfl dX11_write_50 ?_
          refine x_bipush X (by decide) dX11_write_53 ?_
          refine lv_iload_n X.1 X.2.1 dX11_write_55 rfl (lv_at hl 2 rfl) ?_
          refine x_imul X dX11_write_56 ?_
          refine lv_iload_n X.1 X.2.1 dX11_write_57 rfl (lv_at hl 3 rfl) ?_
          refine x_iadd X dX11_write_58 ?_
          refine lv_iload X.1 X.2.1 dX11_write_59 (lv_at hl 0 rfl) ?_
          refine x_if_ne (tgt := 71) X ⟨by omega, by omega⟩ dX11_write_61 (by decide) (fun b_61 => ?_) (fun b_61 => ?_)
          · refine lv_iload X.1 X.2.1 dX11_write_71 (lv_at hl 0 rfl) ?_
            refine x_iconst X dX11_write_73 ?_
            refine x_icmp_ne (tgt := 84) X ⟨by omega, by omega⟩ ⟨by decide, by decide⟩ dX11_write_74 (by decide) (fun b_74 => ?_) (fun b_74 => ?_)
            · refine lv_iload X.1 X.2.1 dX11_write_84 (lv_at hl 0 rfl) ?_
              refine x_iconst X dX11_write_86 ?_
              refine x_icmp_ne (tgt := 96) X ⟨by omega, by omega⟩ ⟨by decide, by decide⟩ dX11_write_87 (by decide) (fun b_87 => ?_) (fun b_87 => ?_)
              · refine lv_lload_n X.1 X.2.1 dX11_write_96 rfl (lv_at hl 4 rfl) ?_
                refine x_last X hW (by omega) h4 (40 * z.toNat + k.toNat) (by omega) (by omega) (by decide) dX11_write_97 (fun g_97 H locs hg_97 hW => ?_)
                have hO : g_97 i = .inr (11, [.ref (A (i + 1)), .ref (A (i + 2)), .ref (A (i + 3)), .ref (A (i + 4)), .int (iI (q 0)), .ref (A (i + 5)), .ref (A (i + 6)), .ref (A (i + 7)), .ref (A (i + 8)), .int (iI (q 1)), .ref (A (i + 9)), .ref (A (i + 10)), .ref (A (i + 11)), .int (iI (q 2)), .ref (A (i + 12)), .ref (A (i + 13)), .int (iI (q 3)), .ref (A (i + 14)), .ref (A (i + 15)), .ref (A (i + 16)), .int (iI (q 4))]) := by rw [hg_97, va_up_ne _ _ (by omega)]; exact hO
                have h2 : g_97 (i + 2) = aI E 10 fe := by rw [hg_97, va_up_ne _ _ (by omega)]; exact h2
                have h3 : g_97 (i + 3) = aI E 10 fw := by rw [hg_97, va_up_ne _ _ (by omega)]; exact h3
                have h4 : g_97 (i + 4) = aJ E 400 (vp_updL fn (40 * z.toNat + k.toNat) (lI (v))) := by rw [hg_97]; exact va_up_self _ _ _
                refine x_iconst X dX11_write_98 ?_
                exact x_iret X hr hlk hW (⟨by rw [hR0], fun _ => ⟨fe, fw, _, h2, h3, h4, rowsM_write hv hs (by omega) (by unfold cutL; rw [if_neg (by omega), if_neg (by omega), if_neg (by omega)])⟩, fun h => absurd hR0 h, fun j hj => by rw [hg_97, va_up_ne _ _ (by omega)]⟩) dX11_write_99
              · refine lv_lload_n X.1 X.2.1 dX11_write_90 rfl (lv_at hl 4 rfl) ?_
                refine x_l2i X dX11_write_91 ?_
                refine x_topi (iI ((iI v).toInt)) (iI_of _) ?_
                refine x_i2l X (I32_of _) dX11_write_92 ?_
                refine lv_goto (tgt := 97) X.1 X.2.1 dX11_write_93 (by decide) ?_
                refine x_last X hW (by omega) h4 (40 * z.toNat + k.toNat) (by omega) (by omega) (by decide) dX11_write_97 (fun g_97 H locs hg_97 hW => ?_)
                have hO : g_97 i = .inr (11, [.ref (A (i + 1)), .ref (A (i + 2)), .ref (A (i + 3)), .ref (A (i + 4)), .int (iI (q 0)), .ref (A (i + 5)), .ref (A (i + 6)), .ref (A (i + 7)), .ref (A (i + 8)), .int (iI (q 1)), .ref (A (i + 9)), .ref (A (i + 10)), .ref (A (i + 11)), .int (iI (q 2)), .ref (A (i + 12)), .ref (A (i + 13)), .int (iI (q 3)), .ref (A (i + 14)), .ref (A (i + 15)), .ref (A (i + 16)), .int (iI (q 4))]) := by rw [hg_97, va_up_ne _ _ (by omega)]; exact hO
                have h2 : g_97 (i + 2) = aI E 10 fe := by rw [hg_97, va_up_ne _ _ (by omega)]; exact h2
                have h3 : g_97 (i + 3) = aI E 10 fw := by rw [hg_97, va_up_ne _ _ (by omega)]; exact h3
                have h4 : g_97 (i + 4) = aJ E 400 (vp_updL fn (40 * z.toNat + k.toNat) (lI ((iI v).toInt))) := by rw [hg_97]; exact va_up_self _ _ _
                refine x_iconst X dX11_write_98 ?_
                exact x_iret X hr hlk hW (⟨by rw [hR0], fun _ => ⟨fe, fw, _, h2, h3, h4, rowsM_write hv hs (by omega) (by rw [i_l]; unfold cutL; rw [if_neg (by omega), if_neg (by omega), if_pos (by omega), lI_i])⟩, fun h => absurd hR0 h, fun j hj => by rw [hg_97, va_up_ne _ _ (by omega)]⟩) dX11_write_99
            · refine lv_lload_n X.1 X.2.1 dX11_write_77 rfl (lv_at hl 4 rfl) ?_
              refine x_l2i X dX11_write_78 ?_
              refine lv_i2s (v := iI ((iI v).toInt16.toInt32.toInt)) X.1 X.2.1 dX11_write_79 (iI_of _) ?_
              refine x_i2l X (I32_of _) dX11_write_80 ?_
              refine lv_goto (tgt := 97) X.1 X.2.1 dX11_write_81 (by decide) ?_
              refine x_last X hW (by omega) h4 (40 * z.toNat + k.toNat) (by omega) (by omega) (by decide) dX11_write_97 (fun g_97 H locs hg_97 hW => ?_)
              have hO : g_97 i = .inr (11, [.ref (A (i + 1)), .ref (A (i + 2)), .ref (A (i + 3)), .ref (A (i + 4)), .int (iI (q 0)), .ref (A (i + 5)), .ref (A (i + 6)), .ref (A (i + 7)), .ref (A (i + 8)), .int (iI (q 1)), .ref (A (i + 9)), .ref (A (i + 10)), .ref (A (i + 11)), .int (iI (q 2)), .ref (A (i + 12)), .ref (A (i + 13)), .int (iI (q 3)), .ref (A (i + 14)), .ref (A (i + 15)), .ref (A (i + 16)), .int (iI (q 4))]) := by rw [hg_97, va_up_ne _ _ (by omega)]; exact hO
              have h2 : g_97 (i + 2) = aI E 10 fe := by rw [hg_97, va_up_ne _ _ (by omega)]; exact h2
              have h3 : g_97 (i + 3) = aI E 10 fw := by rw [hg_97, va_up_ne _ _ (by omega)]; exact h3
              have h4 : g_97 (i + 4) = aJ E 400 (vp_updL fn (40 * z.toNat + k.toNat) (lI ((iI v).toInt16.toInt32.toInt))) := by rw [hg_97]; exact va_up_self _ _ _
              refine x_iconst X dX11_write_98 ?_
              exact x_iret X hr hlk hW (⟨by rw [hR0], fun _ => ⟨fe, fw, _, h2, h3, h4, rowsM_write hv hs (by omega) (by rw [i_l]; unfold cutL; rw [if_neg (by omega), if_pos (by omega), lI_i])⟩, fun h => absurd hR0 h, fun j hj => by rw [hg_97, va_up_ne _ _ (by omega)]⟩) dX11_write_99
          · refine lv_lload_n X.1 X.2.1 dX11_write_64 rfl (lv_at hl 4 rfl) ?_
            refine x_l2i X dX11_write_65 ?_
            refine lv_i2b (v := iI ((iI v).toInt8.toInt32.toInt)) X.1 X.2.1 dX11_write_66 (iI_of _) ?_
            refine x_i2l X (I32_of _) dX11_write_67 ?_
            refine lv_goto (tgt := 97) X.1 X.2.1 dX11_write_68 (by decide) ?_
            refine x_last X hW (by omega) h4 (40 * z.toNat + k.toNat) (by omega) (by omega) (by decide) dX11_write_97 (fun g_97 H locs hg_97 hW => ?_)
            have hO : g_97 i = .inr (11, [.ref (A (i + 1)), .ref (A (i + 2)), .ref (A (i + 3)), .ref (A (i + 4)), .int (iI (q 0)), .ref (A (i + 5)), .ref (A (i + 6)), .ref (A (i + 7)), .ref (A (i + 8)), .int (iI (q 1)), .ref (A (i + 9)), .ref (A (i + 10)), .ref (A (i + 11)), .int (iI (q 2)), .ref (A (i + 12)), .ref (A (i + 13)), .int (iI (q 3)), .ref (A (i + 14)), .ref (A (i + 15)), .ref (A (i + 16)), .int (iI (q 4))]) := by rw [hg_97, va_up_ne _ _ (by omega)]; exact hO
            have h2 : g_97 (i + 2) = aI E 10 fe := by rw [hg_97, va_up_ne _ _ (by omega)]; exact h2
            have h3 : g_97 (i + 3) = aI E 10 fw := by rw [hg_97, va_up_ne _ _ (by omega)]; exact h3
            have h4 : g_97 (i + 4) = aJ E 400 (vp_updL fn (40 * z.toNat + k.toNat) (lI ((iI v).toInt8.toInt32.toInt))) := by rw [hg_97]; exact va_up_self _ _ _
            refine x_iconst X dX11_write_98 ?_
            exact x_iret X hr hlk hW (⟨by rw [hR0], fun _ => ⟨fe, fw, _, h2, h3, h4, rowsM_write hv hs (by omega) (by rw [i_l]; unfold cutL; rw [if_pos (by omega), lI_i])⟩, fun h => absurd hR0 h, fun j hj => by rw [hg_97, va_up_ne _ _ (by omega)]⟩) dX11_write_99
        · refine x_bipush X (by decide) dX11_write_38 ?_
          exact x_iret X hr hlk hW (⟨by unfold wrR; rw [if_pos hs, if_neg (by omega), if_neg (by omega)], fun h => by unfold wrR at h; rw [if_pos hs, if_neg (by omega), if_neg (by omega)] at h; omega, fun _ => rfl, fun _ _ => rfl⟩) dX11_write_40
    · refine x_bipush X (by decide) dX11_write_19 ?_
      exact x_iret X hr hlk hW (⟨by unfold wrR; rw [if_pos hs, if_pos (by omega)], fun h => by unfold wrR at h; rw [if_pos hs, if_pos (by omega)] at h; omega, fun _ => rfl, fun _ _ => rfl⟩) dX11_write_21
  · have hs : ¬ (0 ≤ z ∧ z ≤ 9) := fun h => by rw [if_pos h] at b_4; omega
    refine x_bipush X (by decide) dX11_write_7 ?_
    exact x_iret X hr hlk hW (⟨by unfold wrR; rw [if_neg hs], fun h => by unfold wrR at h; rw [if_neg hs] at h; omega, fun _ => rfl, fun _ _ => rfl⟩) dX11_write_9
