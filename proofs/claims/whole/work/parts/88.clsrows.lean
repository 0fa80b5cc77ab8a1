/-! ===== the class's own methods ===== -/
def kO (A : Nat → Nat) (i bk : Nat) : va_E := .inr (10, [.ref (A (i + 1)), .ref (A (i + 2)), .int (iI ((bk : Int))), .ref (A (i + 3)), .ref (A (i + 12)), .ref (A (i + 54)), .ref (A (i + 65)), .ref (A (i + 114)), .ref (A (i + 123))])
def KR (E : wE) (A : Nat → Nat) (g : Nat → va_E) (i : Nat) (rw rl : Nat → Int) (nm : Nat → Nat → Int) : Prop := (∃ f : Nat → Option Nat, g (i + 1) = aR E 4 10 f ∧ ∀ k, k < 10 → f k = some (A (i + 142 + 2 * k))) ∧ ∀ k, k < 10 → RowV E A g (i + 142 + 2 * k) (rw k) (rl k) (nm k)
def KB (E : wE) (A : Nat → Nat) (g : Nat → va_E) (i bk : Nat) (L : Nat → List (Nat × Nat)) : Prop := (∃ f : Nat → Option Nat, g (i + 2) = aR E 2 16 f ∧ ∀ b, b < 16 → f b = some (A (i + 162 + 3 * b))) ∧ bk ≤ 16 ∧ (∀ b, b < bk → BookV E A g (i + 162 + 3 * b) (L b) ∧ 0 < bE (L b) (fun _ => 1)) ∧ ∀ b, b < 16 → BookX E A g (i + 162 + 3 * b)
def RkV (E : wE) (A : Nat → Nat) (g : Nat → va_E) (i : Nat) (py : Nat → Nat) : Prop := ∃ (fy : Nat → Option Nat) (fp : Nat → Int32), RkC E A g i fy ∧ g (i + 1) = aI E 21 fp ∧ (∀ k, k < 21 → fp k = iI ((py k : Nat) : Int) ∧ py k ≤ 1000) ∧ NatX E A g (i + 3) ∧ NatX E A g (i + 5) ∧ ∀ y, y < 21 → NatX E A g (i + 7 + 2 * y)
def bcl (i : Nat) (co : Nat → Nat) : Nat → Nat := fun k => i + 162 + 3 * co k
theorem KR.frame {E : wE} {A : Nat → Nat} {g g' : Nat → va_E} {i : Nat} {rw rl : Nat → Int} {nm : Nat → Nat → Int} (h : KR E A g i rw rl nm) (h1 : g' (i + 1) = g (i + 1)) (hf : ∀ j, i + 142 ≤ j → j ≤ i + 161 → g' j = g j) : KR E A g' i rw rl nm := by
  obtain ⟨⟨f, a, b⟩, c⟩ := h
  exact ⟨⟨f, h1.trans a, b⟩, fun k hk => (c k hk).frame (hf _ (by omega) (by omega)) (hf _ (by omega) (by omega))⟩
theorem KB.frame {E : wE} {A : Nat → Nat} {g g' : Nat → va_E} {i bk : Nat} {L : Nat → List (Nat × Nat)} (h : KB E A g i bk L) (h1 : g' (i + 2) = g (i + 2)) (hf : ∀ j, i + 162 ≤ j → j ≤ i + 209 → g' j = g j) : KB E A g' i bk L := by
  obtain ⟨⟨f, a, b⟩, c, d, e⟩ := h
  exact ⟨⟨f, h1.trans a, b⟩, c, fun b hb => ⟨(d b hb).1.frame (hf _ (by omega) (by omega)) (hf _ (by omega) (by omega)) (hf _ (by omega) (by omega)), (d b hb).2⟩, fun b hb => (e b hb).frame (hf _ (by omega) (by omega)) (hf _ (by omega) (by omega)) (hf _ (by omega) (by omega))⟩
theorem RkV.frame {E : wE} {A : Nat → Nat} {g g' : Nat → va_E} {i : Nat} {py : Nat → Nat} (h : RkV E A g i py) (hf : ∀ j, i ≤ j → j ≤ i + 48 → g' j = g j) : RkV E A g' i py := by
  obtain ⟨fy, fp, ⟨a1, a2, a3⟩, b, c, d, e, f⟩ := h
  exact ⟨fy, fp, ⟨(hf _ (by omega) (by omega)).trans a1, (hf _ (by omega) (by omega)).trans a2, a3⟩, (hf _ (by omega) (by omega)).trans b, c, d.frame (hf _ (by omega) (by omega)) (hf _ (by omega) (by omega)), e.frame (hf _ (by omega) (by omega)) (hf _ (by omega) (by omega)), fun y hy => (f y hy).frame (hf _ (by omega) (by omega)) (hf _ (by omega) (by omega))⟩
theorem KR.up {E : wE} {A : Nat → Nat} {g g' : Nat → va_E} {i k0 : Nat} {rw rl : Nat → Int} {nm : Nat → Nat → Int} (h : KR E A g i rw rl nm) {w ln : Int} {nn : Nat → Int} (hr : RowV E A g' (i + 142 + 2 * k0) w ln nn) (hf : ∀ j, (j < i + 142 + 2 * k0 ∨ i + 142 + 2 * k0 + 1 < j) → g' j = g j) : KR E A g' i (va_up rw k0 w) (va_up rl k0 ln) (va_up nm k0 nn) := by
  obtain ⟨⟨f, a, b⟩, c⟩ := h
  refine ⟨⟨f, (hf _ (by omega)).trans a, b⟩, fun k hk => ?_⟩
  by_cases e : k = k0
  · subst e; rw [va_up_self, va_up_self, va_up_self]; exact hr
  · rw [va_up_ne _ _ e, va_up_ne _ _ e, va_up_ne _ _ e]; exact (c k hk).frame (hf _ (by omega)) (hf _ (by omega))
theorem KB.bks {E : wE} {A : Nat → Nat} {g : Nat → va_E} {i n bk : Nat} {L : Nat → List (Nat × Nat)} (h : KB E A g i bk L) (hi : i + 209 < n) {cz : Nat} {co : Nat → Nat} (hc : ∀ k, k < cz → co k < bk) : BksV E A g n cz (bcl i co) (LkM L co) := by
  obtain ⟨_, hb, hd, _⟩ := h
  intro k hk
  have h1 := hc k hk
  exact ⟨by unfold bcl; omega, (hd (co k) h1).1⟩
theorem bcl_far {i : Nat} (co : Nat → Nat) (k : Nat) : i + 162 ≤ bcl i co k := by unfold bcl; omega

set_option maxHeartbeats 4000000 in
set_option maxRecDepth 100000 in
/-- isSlot -/
theorem c_X10_isSlot (l : Launch) (E : wE) (A : Nat → Nat) (n sz : Nat) (g : Nat → va_E) (z : Int) (hz : I32 z) : Met l yX10_isSlot wsX10_isSlot ({ frames := 2, cells := 0, slots := 0, locals := 60 } : Room) (va_Pc [.int (iI (z))] (wPre E A n sz g)) (va_Qi (fun r g' => r = iI (if 0 ≤ z ∧ z ≤ 9 then 1 else 0) ∧ g' = g) (wAt E A n) (wF A n sz)) 0 0 (wF A n sz) := by
  refine x_met (cc := cX10_isSlot) (maxL := 1) (ret := (some .boolean)) [.int (iI (z))] (by decide) rfl (Nat.le_of_ble_eq_true rfl) ?_
  intro p_ e_ s_ m_ below meth c_ ls X hr hlk hnm hsz hW hl
  have hl : lv_has ls 1 [(0, .int (iI (z)))] := hl
  have lk_0 : Cond.constantLong RX10 203 (9) ∈ wsX10_isSlot := by decide +kernel
  have hz1 := hz.1
  have hz2 := hz.2
  refine lv_iload_n X.1 X.2.1 dX10_isSlot_0 rfl (lv_at hl 0 rfl) ?_
  refine x_i2l X hz dX10_isSlot_1 ?_
  refine x_lconst X 0 (by decide) dX10_isSlot_2 ?_
  refine x_ldc2 X (9) (by decide) lk_0 dX10_isSlot_3 ?_
  refine x_ci (x_runS (k := 3) (As := [.long (lI (z)), .long (lI (0)), .long (lI (9))]) (rest := []) X hW (c_X10_isWithin l E A n _ g (z) (0) (9) ⟨by omega, by omega⟩ ⟨by omega, by omega⟩ ⟨by omega, by omega⟩) gX10_isSlot_X10_isWithin rfl rfl rfl (by decide +kernel) ⟨by decide, by decide⟩ rfl hl.1 rfl (Nat.le_of_ble_eq_true rfl) dX10_isSlot_6 ⟨Nat.zero_le _, Nat.zero_le _⟩) hW (fun r_6 g_6 H locs hp_6 hW => ?_)
  obtain ⟨hr_6, he_6⟩ := hp_6
  rw [he_6] at hW
  subst hr_6
  exact x_zret X hr hlk (by split <;> decide) hW (⟨rfl, rfl⟩) dX10_isSlot_9

set_option maxHeartbeats 4000000 in
set_option maxRecDepth 100000 in
/-- isBook -/
theorem c_X10_isBook (l : Launch) (E : wE) (A : Nat → Nat) (n sz : Nat) (g : Nat → va_E) (i bk : Nat) (z : Int) (hi : i + 209 < n) (hO : g i = kO A i bk) (hbk : bk ≤ 16) (hz : I32 z) : Met l yX10_isBook wsX10_isBook ({ frames := 2, cells := 0, slots := 0, locals := 60 } : Room) (va_Pc [.ref (A (i)), .int (iI (z))] (wPre E A n sz g)) (va_Qi (fun r g' => r = iI (if 0 ≤ z ∧ z ≤ (bk : Int) - 1 then 1 else 0) ∧ g' = g) (wAt E A n) (wF A n sz)) 0 0 (wF A n sz) := by
  refine x_met (cc := cX10_isBook) (maxL := 2) (ret := (some .boolean)) [.ref (A (i)), .int (iI (z))] (by decide) rfl (Nat.le_of_ble_eq_true rfl) ?_
  intro p_ e_ s_ m_ below meth c_ ls X hr hlk hnm hsz hW hl
  have hl : lv_has ls 2 [(0, .ref (A (i))), (1, .int (iI (z)))] := hl
  have lk_0 : ∀ w ∈ wsX100, w ∈ wsX10_isBook := by decide +kernel
  have lk_1 : Cond.fieldLink RX10 21 (TX10 2).1 (TX10 2).2.1 (TX10 2).2.2.1 ∈ wsX10_isBook := by decide +kernel
  have hO : g i = .inr (10, [.ref (A (i + 1)), .ref (A (i + 2)), .int (iI ((bk : Int))), .ref (A (i + 3)), .ref (A (i + 12)), .ref (A (i + 54)), .ref (A (i + 65)), .ref (A (i + 114)), .ref (A (i + 123))]) := hO
  have hz1 := hz.1
  have hz2 := hz.2
  refine lv_iload_n X.1 X.2.1 dX10_isBook_0 rfl (lv_at hl 1 rfl) ?_
  refine x_i2l X hz dX10_isBook_1 ?_
  refine x_lconst X 0 (by decide) dX10_isBook_2 ?_
  refine lv_aload_n X.1 X.2.1 dX10_isBook_3 rfl (lv_at hl 0 rfl) ?_
  refine x_get (C := RX10) (T := TX10) (N := 9) X hW (by omega) hO rfl lk_0 2 (by decide) lk_1 rfl dX10_isBook_4 ?_
  refine x_iconst X dX10_isBook_7 ?_
  refine x_isub X dX10_isBook_8 ?_
  refine x_i2l X ⟨by omega, by omega⟩ dX10_isBook_9 ?_
  refine x_ci (x_runS (k := 3) (As := [.long (lI (z)), .long (lI (0)), .long (lI (((bk : Int)) - 1))]) (rest := []) X hW (c_X10_isWithin l E A n _ g (z) (0) ((bk : Int) - 1) ⟨by omega, by omega⟩ ⟨by omega, by omega⟩ ⟨by omega, by omega⟩) gX10_isBook_X10_isWithin rfl rfl rfl (by decide +kernel) ⟨by decide, by decide⟩ rfl hl.1 rfl (Nat.le_of_ble_eq_true rfl) dX10_isBook_10 ⟨Nat.zero_le _, Nat.zero_le _⟩) hW (fun r_10 g_10 H locs hp_10 hW => ?_)
  obtain ⟨hr_10, he_10⟩ := hp_10
  rw [he_10] at hW
  subst hr_10
  exact x_zret X hr hlk (by split <;> decide) hW (⟨rfl, rfl⟩) dX10_isBook_13

set_option maxHeartbeats 4000000 in
set_option maxRecDepth 100000 in
/-- row -/
theorem c_X10_row (l : Launch) (E : wE) (A : Nat → Nat) (n sz : Nat) (g : Nat → va_E) (i bk : Nat) (rw rl : Nat → Int) (nm : Nat → Nat → Int) (z w m9 : Int) (hi : i + 209 < n) (hO : g i = kO A i bk) (hR : KR E A g i rw rl nm) (hz : I32 z) (hw : I32 w) (hm9 : I32 m9) : Met l yX10_row wsX10_row ({ frames := 4, cells := 0, slots := 0, locals := 160 } : Room) (va_Pc [.ref (A (i)), .int (iI (z)), .int (iI (w)), .int (iI (m9))] (wPre E A n sz g)) (va_Qi (fun r g' => r = iI (rowR z w m9) ∧ (rowR z w m9 = 0 → KR E A g' i (va_up rw z.toNat w) (va_up rl z.toNat m9) (va_up nm z.toNat (fun _ => 0))) ∧ (rowR z w m9 ≠ 0 → g' = g) ∧ ∀ j, (j < i + 142 ∨ i + 161 < j) → g' j = g j) (wAt E A n) (wF A n sz)) 0 0 (wF A n sz) := by
  refine x_met (cc := cX10_row) (maxL := 4) (ret := (some .int)) [.ref (A (i)), .int (iI (z)), .int (iI (w)), .int (iI (m9))] (by decide) rfl (Nat.le_of_ble_eq_true rfl) ?_
  intro p_ e_ s_ m_ below meth c_ ls X hr hlk hnm hsz hW hl
  have hl : lv_has ls 4 [(0, .ref (A (i))), (1, .int (iI (z))), (2, .int (iI (w))), (3, .int (iI (m9)))] := hl
  have lk_0 : Cond.constantLong RX10 73 (3) ∈ wsX10_row := by decide +kernel
  have lk_1 : ∀ w ∈ wsX100, w ∈ wsX10_row := by decide +kernel
  have lk_2 : Cond.fieldLink RX10 11 (TX10 0).1 (TX10 0).2.1 (TX10 0).2.2.1 ∈ wsX10_row := by decide +kernel
  have hO : g i = .inr (10, [.ref (A (i + 1)), .ref (A (i + 2)), .int (iI ((bk : Int))), .ref (A (i + 3)), .ref (A (i + 12)), .ref (A (i + 54)), .ref (A (i + 65)), .ref (A (i + 114)), .ref (A (i + 123))]) := hO
  have hz1 := hz.1
  have hz2 := hz.2
  obtain ⟨⟨f1, h1, hf1⟩, hrv⟩ := id hR
  have hw1 := hw.1
  have hw2 := hw.2
  have hm91 := hm9.1
  have hm92 := hm9.2
  refine lv_iload_n X.1 X.2.1 dX10_row_0 rfl (lv_at hl 1 rfl) ?_
  refine x_ci (x_runS (k := 1) (As := [.int (iI (z))]) (rest := []) X hW (c_X10_isSlot l E A n _ g z hz) gX10_row_X10_isSlot rfl rfl rfl (by decide +kernel) ⟨by decide, by decide⟩ rfl hl.1 rfl (Nat.le_of_ble_eq_true rfl) dX10_row_1 ⟨Nat.zero_le _, Nat.zero_le _⟩) hW (fun r_1 g_1 H locs hp_1 hW => ?_)
  obtain ⟨hr_1, he_1⟩ := hp_1
  rw [he_1] at hW
  subst hr_1
  refine x_if_eq (tgt := 25) X ⟨by split <;> decide, by split <;> decide⟩ dX10_row_4 (by decide) (fun b_4 => ?_) (fun b_4 => ?_)
  · have hs : ¬ (0 ≤ z ∧ z ≤ 9) := fun h => by rw [if_pos h] at b_4; omega
    refine x_bipush X (by decide) dX10_row_25 ?_
    exact x_iret X hr hlk hW (⟨by unfold rowR; rw [if_neg (by omega)], fun h => by unfold rowR at h; rw [if_neg (by omega)] at h; omega, fun _ => rfl, fun _ _ => rfl⟩) dX10_row_27
  · have hs : 0 ≤ z ∧ z ≤ 9 := Decidable.byContradiction (fun h => by rw [if_neg h] at b_4; exact b_4 rfl)
    refine lv_iload_n X.1 X.2.1 dX10_row_7 rfl (lv_at hl 2 rfl) ?_
    refine x_i2l X hw dX10_row_8 ?_
    refine x_lconst X 0 (by decide) dX10_row_9 ?_
    refine x_ldc2 X (3) (by decide) lk_0 dX10_row_10 ?_
    refine x_ci (x_runS (k := 3) (As := [.long (lI (w)), .long (lI (0)), .long (lI (3))]) (rest := []) X hW (c_X10_isWithin l E A n _ g (w) (0) (3) ⟨by omega, by omega⟩ ⟨by omega, by omega⟩ ⟨by omega, by omega⟩) gX10_row_X10_isWithin rfl rfl rfl (by decide +kernel) ⟨by decide, by decide⟩ rfl hl.1 rfl (Nat.le_of_ble_eq_true rfl) dX10_row_13 ⟨Nat.zero_le _, Nat.zero_le _⟩) hW (fun r_13 g_13 H locs hp_13 hW => ?_)
    obtain ⟨hr_13, he_13⟩ := hp_13
    rw [he_13] at hW
    subst hr_13
    refine x_if_eq (tgt := 25) X ⟨by split <;> decide, by split <;> decide⟩ dX10_row_16 (by decide) (fun b_16 => ?_) (fun b_16 => ?_)
    · have hs2 : ¬ (0 ≤ w ∧ w ≤ 3) := fun h => by rw [if_pos h] at b_16; omega
      refine x_bipush X (by decide) dX10_row_25 ?_
      exact x_iret X hr hlk hW (⟨by unfold rowR; rw [if_neg (by omega)], fun h => by unfold rowR at h; rw [if_neg (by omega)] at h; omega, fun _ => rfl, fun _ _ => rfl⟩) dX10_row_27
    · have hs2 : 0 ≤ w ∧ w ≤ 3 := Decidable.byContradiction (fun h => by rw [if_neg h] at b_16; exact b_16 rfl)
      refine lv_iload_n X.1 X.2.1 dX10_row_19 rfl (lv_at hl 3 rfl) ?_
      refine x_bipush X (by decide) dX10_row_20 ?_
      refine x_icmp_le (tgt := 28) X hm9 ⟨by decide, by decide⟩ dX10_row_22 (by decide) (fun b_22 => ?_) (fun b_22 => ?_)
      · refine lv_iload_n X.1 X.2.1 dX10_row_28 rfl (lv_at hl 3 rfl) ?_
        refine x_if_ge (tgt := 35) X hm9 dX10_row_29 (by decide) (fun b_29 => ?_) (fun b_29 => ?_)
        · have hrw := hrv z.toNat (by omega)
          have hro := hrw.1
          have hR0 : rowR z w m9 = 0 := by unfold rowR; rw [if_pos (by omega), if_neg (by omega)]
          refine lv_aload_n X.1 X.2.1 dX10_row_35 rfl (lv_at hl 0 rfl) ?_
          refine x_get (C := RX10) (T := TX10) (N := 9) X hW (by omega) hO rfl lk_1 0 (by decide) lk_2 rfl dX10_row_36 ?_
          refine lv_iload_n X.1 X.2.1 dX10_row_39 rfl (lv_at hl 1 rfl) ?_
          refine x_aald X hW (by omega) h1 rfl (j := i + 142 + 2 * z.toNat) z.toNat (by omega) (by omega) (by decide) (hf1 z.toNat (by omega)) dX10_row_40 ?_
          refine lv_iload_n X.1 X.2.1 dX10_row_41 rfl (lv_at hl 2 rfl) ?_
          refine lv_iload_n X.1 X.2.1 dX10_row_42 rfl (lv_at hl 3 rfl) ?_
          refine x_cv (x_runV (k := 2) (As := [.int (iI (w)), .int (iI (m9))]) (rest := []) X hW (c_X9_lay l E A n _ g (i + 142 + 2 * z.toNat) (rw z.toNat) (rl z.toNat) (nm z.toNat) w m9 (by omega) hrw (by omega) (by omega) (by omega) (by omega)) (by omega) hro rfl gX10_row_X9_lay rfl rfl rfl (by decide +kernel) ⟨by decide, by decide⟩ rfl hl.1 rfl (Nat.le_of_ble_eq_true rfl) dX10_row_43 ⟨Nat.zero_le _, Nat.zero_le _⟩) hW (fun g_43 H locs hp_43 hW => ?_)
          obtain ⟨hR2, hf_43⟩ := hp_43
          refine x_iconst X dX10_row_46 ?_
          exact x_iret X hr hlk hW (⟨by rw [hR0], fun _ => hR.up hR2 hf_43, fun h => absurd hR0 h, fun j hj => hf_43 j (by omega)⟩) dX10_row_47
        · refine x_bipush X (by decide) dX10_row_32 ?_
          exact x_iret X hr hlk hW (⟨by unfold rowR; rw [if_pos (by omega), if_pos (by omega)], fun h => by unfold rowR at h; rw [if_pos (by omega), if_pos (by omega)] at h; omega, fun _ => rfl, fun _ _ => rfl⟩) dX10_row_34
      · refine x_bipush X (by decide) dX10_row_25 ?_
        exact x_iret X hr hlk hW (⟨by unfold rowR; rw [if_neg (by omega)], fun h => by unfold rowR at h; rw [if_neg (by omega)] at h; omega, fun _ => rfl, fun _ _ => rfl⟩) dX10_row_27

set_option maxHeartbeats 4000000 in
set_option maxRecDepth 100000 in
/-- tear -/
theorem c_X10_tear (l : Launch) (E : wE) (A : Nat → Nat) (n sz : Nat) (g : Nat → va_E) (i bk : Nat) (rw rl : Nat → Int) (nm : Nat → Nat → Int) (z : Int) (hi : i + 209 < n) (hO : g i = kO A i bk) (hR : KR E A g i rw rl nm) (hz : I32 z) : Met l yX10_tear wsX10_tear ({ frames := 4, cells := 0, slots := 0, locals := 160 } : Room) (va_Pc [.ref (A (i)), .int (iI (z))] (wPre E A n sz g)) (va_Qi (fun r g' => r = iI (if (0 ≤ z ∧ z ≤ 9) ∧ rl z.toNat ≠ -1 then 1 else 0) ∧ ((0 ≤ z ∧ z ≤ 9) ∧ rl z.toNat ≠ -1 → KR E A g' i rw (va_up rl z.toNat (-1)) nm) ∧ (¬ ((0 ≤ z ∧ z ≤ 9) ∧ rl z.toNat ≠ -1) → g' = g) ∧ ∀ j, (j < i + 142 ∨ i + 161 < j) → g' j = g j) (wAt E A n) (wF A n sz)) 0 0 (wF A n sz) := by
  refine x_met (cc := cX10_tear) (maxL := 2) (ret := (some .boolean)) [.ref (A (i)), .int (iI (z))] (by decide) rfl (Nat.le_of_ble_eq_true rfl) ?_
  intro p_ e_ s_ m_ below meth c_ ls X hr hlk hnm hsz hW hl
  have hl : lv_has ls 2 [(0, .ref (A (i))), (1, .int (iI (z)))] := hl
  have lk_0 : ∀ w ∈ wsX100, w ∈ wsX10_tear := by decide +kernel
  have lk_1 : Cond.fieldLink RX10 11 (TX10 0).1 (TX10 0).2.1 (TX10 0).2.2.1 ∈ wsX10_tear := by decide +kernel
  have hO : g i = .inr (10, [.ref (A (i + 1)), .ref (A (i + 2)), .int (iI ((bk : Int))), .ref (A (i + 3)), .ref (A (i + 12)), .ref (A (i + 54)), .ref (A (i + 65)), .ref (A (i + 114)), .ref (A (i + 123))]) := hO
  have hz1 := hz.1
  have hz2 := hz.2
  obtain ⟨⟨f1, h1, hf1⟩, hrv⟩ := id hR
  refine lv_iload_n X.1 X.2.1 dX10_tear_0 rfl (lv_at hl 1 rfl) ?_
  refine x_ci (x_runS (k := 1) (As := [.int (iI (z))]) (rest := []) X hW (c_X10_isSlot l E A n _ g z hz) gX10_tear_X10_isSlot rfl rfl rfl (by decide +kernel) ⟨by decide, by decide⟩ rfl hl.1 rfl (Nat.le_of_ble_eq_true rfl) dX10_tear_1 ⟨Nat.zero_le _, Nat.zero_le _⟩) hW (fun r_1 g_1 H locs hp_1 hW => ?_)
  obtain ⟨hr_1, he_1⟩ := hp_1
  rw [he_1] at hW
  subst hr_1
  refine x_if_eq (tgt := 19) X ⟨by split <;> decide, by split <;> decide⟩ dX10_tear_4 (by decide) (fun b_4 => ?_) (fun b_4 => ?_)
  · have hs : ¬ (0 ≤ z ∧ z ≤ 9) := fun h => by rw [if_pos h] at b_4; omega
    refine x_iconst X dX10_tear_19 ?_
    exact x_zret X hr hlk (by decide) hW (⟨by rw [if_neg (by omega)], fun h => absurd h (by omega), fun _ => rfl, fun _ _ => rfl⟩) dX10_tear_20
  · have hs : 0 ≤ z ∧ z ≤ 9 := Decidable.byContradiction (fun h => by rw [if_neg h] at b_4; exact b_4 rfl)
    have hrw := hrv z.toNat (by omega)
    have hro := hrw.1
    refine lv_aload_n X.1 X.2.1 dX10_tear_7 rfl (lv_at hl 0 rfl) ?_
    refine x_get (C := RX10) (T := TX10) (N := 9) X hW (by omega) hO rfl lk_0 0 (by decide) lk_1 rfl dX10_tear_8 ?_
    refine lv_iload_n X.1 X.2.1 dX10_tear_11 rfl (lv_at hl 1 rfl) ?_
    refine x_aald X hW (by omega) h1 rfl (j := i + 142 + 2 * z.toNat) z.toNat (by omega) (by omega) (by decide) (hf1 z.toNat (by omega)) dX10_tear_12 ?_
    refine x_ci (x_runV (k := 0) (As := []) (rest := []) X hW (c_X9_isThere l E A n _ g (i + 142 + 2 * z.toNat) (rw z.toNat) (rl z.toNat) (nm z.toNat) (by omega) hrw) (by omega) hro rfl gX10_tear_X9_isThere rfl rfl rfl (by decide +kernel) ⟨by decide, by decide⟩ rfl hl.1 rfl (Nat.le_of_ble_eq_true rfl) dX10_tear_13 ⟨Nat.zero_le _, Nat.zero_le _⟩) hW (fun r_13 g_13 H locs hp_13 hW => ?_)
    obtain ⟨hr_13, he_13⟩ := hp_13
    rw [he_13] at hW
    subst hr_13
    refine x_if_ne (tgt := 21) X ⟨by split <;> decide, by split <;> decide⟩ dX10_tear_16 (by decide) (fun b_16 => ?_) (fun b_16 => ?_)
    · have hth : rl z.toNat ≠ -1 := fun h => by rw [if_pos h] at b_16; exact b_16 rfl
      refine lv_aload_n X.1 X.2.1 dX10_tear_21 rfl (lv_at hl 0 rfl) ?_
      refine x_get (C := RX10) (T := TX10) (N := 9) X hW (by omega) hO rfl lk_0 0 (by decide) lk_1 rfl dX10_tear_22 ?_
      refine lv_iload_n X.1 X.2.1 dX10_tear_25 rfl (lv_at hl 1 rfl) ?_
      refine x_aald X hW (by omega) h1 rfl (j := i + 142 + 2 * z.toNat) z.toNat (by omega) (by omega) (by decide) (hf1 z.toNat (by omega)) dX10_tear_26 ?_
      refine x_cv (x_runV (k := 0) (As := []) (rest := []) X hW (c_X9_remove l E A n _ g (i + 142 + 2 * z.toNat) (rw z.toNat) (rl z.toNat) (nm z.toNat) (by omega) hrw) (by omega) hro rfl gX10_tear_X9_remove rfl rfl rfl (by decide +kernel) ⟨by decide, by decide⟩ rfl hl.1 rfl (Nat.le_of_ble_eq_true rfl) dX10_tear_27 ⟨Nat.zero_le _, Nat.zero_le _⟩) hW (fun g_27 H locs hp_27 hW => ?_)
      obtain ⟨hR2, hf_27⟩ := hp_27
      refine x_iconst X dX10_tear_30 ?_
      exact x_zret X hr hlk (by decide) hW (⟨by rw [if_pos ⟨hs, hth⟩], fun _ => by have h9 := hR.up hR2 hf_27; rwa [up_same rw, up_same nm] at h9, fun h => absurd (show (0 ≤ z ∧ z ≤ 9) ∧ rl z.toNat ≠ -1 from ⟨hs, hth⟩) h, fun j hj => hf_27 j (by omega)⟩) dX10_tear_31
    · have hth : rl z.toNat = -1 := Decidable.byContradiction (fun h => by rw [if_neg h] at b_16; omega)
      refine x_iconst X dX10_tear_19 ?_
      exact x_zret X hr hlk (by decide) hW (⟨by rw [if_neg (by omega)], fun h => absurd h (by omega), fun _ => rfl, fun _ _ => rfl⟩) dX10_tear_20

set_option maxHeartbeats 4000000 in
set_option maxRecDepth 100000 in
/-- write -/
theorem c_X10_write (l : Launch) (E : wE) (A : Nat → Nat) (n sz : Nat) (g : Nat → va_E) (i bk : Nat) (rw rl : Nat → Int) (nm : Nat → Nat → Int) (z k v : Int) (hi : i + 209 < n) (hO : g i = kO A i bk) (hR : KR E A g i rw rl nm) (hz : I32 z) (hk : I32 k) (hv8 : I64 v) : Met l yX10_write wsX10_write ({ frames := 4, cells := 0, slots := 0, locals := 160 } : Room) (va_Pc [.ref (A (i)), .int (iI (z)), .int (iI (k)), .long (lI (v))] (wPre E A n sz g)) (va_Qi (fun r g' => r = iI (wrR rl z k) ∧ (wrR rl z k = 0 → KR E A g' i rw rl (va_up nm z.toNat (va_up (nm z.toNat) k.toNat (cutL (rw z.toNat) (lI v)).toInt))) ∧ (wrR rl z k ≠ 0 → KR E A g' i rw rl nm) ∧ ∀ j, (j < i + 142 ∨ i + 161 < j) → g' j = g j) (wAt E A n) (wF A n sz)) 0 0 (wF A n sz) := by
  refine x_met (cc := cX10_write) (maxL := 5) (ret := (some .int)) [.ref (A (i)), .int (iI (z)), .int (iI (k)), .long (lI (v))] (by decide) rfl (Nat.le_of_ble_eq_true rfl) ?_
  intro p_ e_ s_ m_ below meth c_ ls X hr hlk hnm hsz hW hl
  have hl : lv_has ls 5 [(0, .ref (A (i))), (1, .int (iI (z))), (2, .int (iI (k))), (3, .long (lI (v)))] := hl
  have lk_0 : ∀ w ∈ wsX100, w ∈ wsX10_write := by decide +kernel
  have lk_1 : Cond.fieldLink RX10 11 (TX10 0).1 (TX10 0).2.1 (TX10 0).2.2.1 ∈ wsX10_write := by decide +kernel
  have hO : g i = .inr (10, [.ref (A (i + 1)), .ref (A (i + 2)), .int (iI ((bk : Int))), .ref (A (i + 3)), .ref (A (i + 12)), .ref (A (i + 54)), .ref (A (i + 65)), .ref (A (i + 114)), .ref (A (i + 123))]) := hO
  have hz1 := hz.1
  have hz2 := hz.2
  obtain ⟨⟨f1, h1, hf1⟩, hrv⟩ := id hR
  refine lv_iload_n X.1 X.2.1 dX10_write_0 rfl (lv_at hl 1 rfl) ?_
  refine x_ci (x_runS (k := 1) (As := [.int (iI (z))]) (rest := []) X hW (c_X10_isSlot l E A n _ g z hz) gX10_write_X10_isSlot rfl rfl rfl (by decide +kernel) ⟨by decide, by decide⟩ rfl hl.1 rfl (Nat.le_of_ble_eq_true rfl) dX10_write_1 ⟨Nat.zero_le _, Nat.zero_le _⟩) hW (fun r_1 g_1 H locs hp_1 hW => ?_)
  obtain ⟨hr_1, he_1⟩ := hp_1
  rw [he_1] at hW
  subst hr_1
  refine x_if_ne (tgt := 10) X ⟨by split <;> decide, by split <;> decide⟩ dX10_write_4 (by decide) (fun b_4 => ?_) (fun b_4 => ?_)
  · have hs : 0 ≤ z ∧ z ≤ 9 := Decidable.byContradiction (fun h => by rw [if_neg h] at b_4; exact b_4 rfl)
    have hrw := hrv z.toNat (by omega)
    have hro := hrw.1
    refine lv_aload_n X.1 X.2.1 dX10_write_10 rfl (lv_at hl 0 rfl) ?_
    refine x_get (C := RX10) (T := TX10) (N := 9) X hW (by omega) hO rfl lk_0 0 (by decide) lk_1 rfl dX10_write_11 ?_
    refine lv_iload_n X.1 X.2.1 dX10_write_14 rfl (lv_at hl 1 rfl) ?_
    refine x_aald X hW (by omega) h1 rfl (j := i + 142 + 2 * z.toNat) z.toNat (by omega) (by omega) (by decide) (hf1 z.toNat (by omega)) dX10_write_15 ?_
    refine x_ci (x_runV (k := 0) (As := []) (rest := []) X hW (c_X9_isThere l E A n _ g (i + 142 + 2 * z.toNat) (rw z.toNat) (rl z.toNat) (nm z.toNat) (by omega) hrw) (by omega) hro rfl gX10_write_X9_isThere rfl rfl rfl (by decide +kernel) ⟨by decide, by decide⟩ rfl hl.1 rfl (Nat.le_of_ble_eq_true rfl) dX10_write_16 ⟨Nat.zero_le _, Nat.zero_le _⟩) hW (fun r_16 g_16 H locs hp_16 hW => ?_)
    obtain ⟨hr_16, he_16⟩ := hp_16
    rw [he_16] at hW
    subst hr_16
    refine x_if_ne (tgt := 25) X ⟨by split <;> decide, by split <;> decide⟩ dX10_write_19 (by decide) (fun b_19 => ?_) (fun b_19 => ?_)
    · have hth : rl z.toNat ≠ -1 := fun h => by rw [if_pos h] at b_19; exact b_19 rfl
      refine lv_aload_n X.1 X.2.1 dX10_write_25 rfl (lv_at hl 0 rfl) ?_
      refine x_get (C := RX10) (T := TX10) (N := 9) X hW (by omega) hO rfl lk_0 0 (by decide) lk_1 rfl dX10_write_26 ?_
      refine lv_iload_n X.1 X.2.1 dX10_write_29 rfl (lv_at hl 1 rfl) ?_
      refine x_aald X hW (by omega) h1 rfl (j := i + 142 + 2 * z.toNat) z.toNat (by omega) (by omega) (by decide) (hf1 z.toNat (by omega)) dX10_write_30 ?_
      refine lv_iload_n X.1 X.2.1 dX10_write_31 rfl (lv_at hl 2 rfl) ?_
      refine lv_lload_n X.1 X.2.1 dX10_write_32 rfl (lv_at hl 3 rfl) ?_
      refine x_ci (x_runV (k := 2) (As := [.int (iI (k)), .long (lI (v))]) (rest := []) X hW (c_X9_put l E A n _ g (i + 142 + 2 * z.toNat) (rw z.toNat) (rl z.toNat) (nm z.toNat) k v (by omega) hrw hk hv8) (by omega) hro rfl gX10_write_X9_put rfl rfl rfl (by decide +kernel) ⟨by decide, by decide⟩ rfl hl.1 rfl (Nat.le_of_ble_eq_true rfl) dX10_write_33 ⟨Nat.zero_le _, Nat.zero_le _⟩) hW (fun r_33 g_33 H locs hp_33 hW => ?_)
      obtain ⟨hr_33, hR2, hf_33⟩ := hp_33
      subst hr_33
      refine x_if_eq (tgt := 43) X ⟨by split <;> decide, by split <;> decide⟩ dX10_write_36 (by decide) (fun b_36 => ?_) (fun b_36 => ?_)
      · have hs2 : ¬ (0 ≤ k ∧ k ≤ rl z.toNat - 1) := fun h => by rw [if_pos h] at b_36; omega
        refine x_bipush X (by decide) dX10_write_43 ?_
        exact x_iret X hr hlk hW (⟨by unfold wrR; rw [if_pos hs, if_neg hth, if_neg hs2], fun h => by unfold wrR at h; rw [if_pos hs, if_neg hth, if_neg hs2] at h; omega, fun _ => by rw [if_neg hs2] at hR2; have h9 := hR.up hR2 hf_33; rwa [up_same rw, up_same rl, up_same nm] at h9, fun j hj => hf_33 j (by omega)⟩) dX10_write_45
      · have hs2 : 0 ≤ k ∧ k ≤ rl z.toNat - 1 := Decidable.byContradiction (fun h => by rw [if_neg h] at b_36; exact b_36 rfl)
        refine x_iconst X dX10_write_39 ?_
        refine lv_goto (tgt := 45) X.1 X.2.1 dX10_write_40 (by decide) ?_
        exact x_iret X hr hlk hW (⟨by unfold wrR; rw [if_pos hs, if_neg hth, if_pos hs2], fun _ => by rw [if_pos hs2] at hR2; have h9 := hR.up hR2 hf_33; rwa [up_same rw, up_same rl] at h9, fun h => by unfold wrR at h; rw [if_pos hs, if_neg hth, if_pos hs2] at h; exact absurd rfl h, fun j hj => hf_33 j (by omega)⟩) dX10_write_45
    · have hth : rl z.toNat = -1 := Decidable.byContradiction (fun h => by rw [if_neg h] at b_19; omega)
      refine x_bipush X (by decide) dX10_write_22 ?_
      exact x_iret X hr hlk hW (⟨by unfold wrR; rw [if_pos hs, if_pos hth], fun h => by unfold wrR at h; rw [if_pos hs, if_pos hth] at h; omega, fun _ => hR, fun _ _ => rfl⟩) dX10_write_24
  · have hs : ¬ (0 ≤ z ∧ z ≤ 9) := fun h => by rw [if_pos h] at b_4; omega
    refine x_bipush X (by decide) dX10_write_7 ?_
    exact x_iret X hr hlk hW (⟨by unfold wrR; rw [if_neg hs], fun h => by unfold wrR at h; rw [if_neg hs] at h; omega, fun _ => hR, fun _ _ => rfl⟩) dX10_write_9

set_option maxHeartbeats 4000000 in
set_option maxRecDepth 100000 in
/-- rowsThere -/
theorem c_X10_rowsThere (l : Launch) (E : wE) (A : Nat → Nat) (n sz : Nat) (g : Nat → va_E) (i bk : Nat) (rw rl : Nat → Int) (nm : Nat → Nat → Int) (hi : i + 209 < n) (hO : g i = kO A i bk) (hR : KR E A g i rw rl nm) : Met l yX10_rowsThere wsX10_rowsThere ({ frames := 2, cells := 0, slots := 0, locals := 60 } : Room) (va_Pc [.ref (A (i))] (wPre E A n sz g)) (va_Qi (fun r g' => r = iI ((thR rl 10 : Nat) : Int) ∧ g' = g) (wAt E A n) (wF A n sz)) 0 0 (wF A n sz) := by
  refine x_met (cc := cX10_rowsThere) (maxL := 3) (ret := (some .int)) [.ref (A (i))] (by decide) rfl (Nat.le_of_ble_eq_true rfl) ?_
  intro p_ e_ s_ m_ below meth c_ ls X hr hlk hnm hsz hW hl
  have hl : lv_has ls 3 [(0, .ref (A (i)))] := hl
  have lk_0 : ∀ w ∈ wsX100, w ∈ wsX10_rowsThere := by decide +kernel
  have lk_1 : Cond.fieldLink RX10 11 (TX10 0).1 (TX10 0).2.1 (TX10 0).2.2.1 ∈ wsX10_rowsThere := by decide +kernel
  have hO : g i = .inr (10, [.ref (A (i + 1)), .ref (A (i + 2)), .int (iI ((bk : Int))), .ref (A (i + 3)), .ref (A (i + 12)), .ref (A (i + 54)), .ref (A (i + 65)), .ref (A (i + 114)), .ref (A (i + 123))]) := hO
  obtain ⟨⟨f1, h1, hf1⟩, hrv⟩ := id hR
  refine x_iconst X dX10_rowsThere_0 ?_
  refine x_seti (((0 : Nat) : Int)) rfl ?_
  refine lv_istore_n (lv' := [(1, .int (iI (((0 : Nat) : Int)))), (0, .ref (A (i)))]) X.1 X.2.1 dX10_rowsThere_1 rfl hl (by decide) rfl (fun ls hl => ?_)
  refine x_iconst X dX10_rowsThere_2 ?_
  refine x_seti (((0 : Nat) : Int)) rfl ?_
  refine lv_istore_n (lv' := [(2, .int (iI (((0 : Nat) : Int)))), (1, .int (iI (((0 : Nat) : Int)))), (0, .ref (A (i)))]) X.1 X.2.1 dX10_rowsThere_3 rfl hl (by decide) rfl (fun ls hl => ?_)
  have loop_4 : ∀ (fuel : Nat) (t : Nat) (rs : Nat) (gw : Nat → va_E) (H : Heap) (locs : List Loc) (ls : Array Slot), (10 - t) < fuel → (t ≤ 10) → (rs = thR rl t) → (gw = g) → wH E (wF A n sz) A n s_ gw H locs → lv_has ls 3 [(0, .ref (A (i))), (1, .int (iI (((rs : Nat) : Int)))), (2, .int (iI (((t : Nat) : Int))))] → W p_ l e_ ({ frames := 2, cells := 0, slots := 0, locals := 60 } : Room) s_ m_ [.ref (A (i))].toArray below meth c_ H locs 0 0 (MQ below (va_Qi (fun r g' => r = iI ((thR rl 10 : Nat) : Int) ∧ g' = g) (wAt E A n) (wF A n sz)) [.ref (A (i))].toArray s_ 0 0 (wF A n sz)) (F0 m_ 4 ls []) := by
    intro fuel
    induction fuel with
    | zero => intro t rs gw H locs ls hm; exact absurd hm (Nat.not_lt_zero _)
    | succ fuel ih_4 =>
      intro t rs gw H locs ls hm ht hrs hgg hW hl
      have hO : gw i = .inr (10, [.ref (A (i + 1)), .ref (A (i + 2)), .int (iI ((bk : Int))), .ref (A (i + 3)), .ref (A (i + 12)), .ref (A (i + 54)), .ref (A (i + 65)), .ref (A (i + 114)), .ref (A (i + 123))]) := by rw [hgg]; exact hO
      have h1 : gw (i + 1) = aR E 4 10 f1 := by rw [hgg]; exact h1
      have hrv : ∀ k, k < 10 → RowV E A gw (i + 142 + 2 * k) (rw k) (rl k) (nm k) := by rw [hgg]; exact hrv
      refine lv_iload_n X.1 X.2.1 dX10_rowsThere_4 rfl (lv_at hl 2 rfl) ?_
      refine lv_aload_n X.1 X.2.1 dX10_rowsThere_5 rfl (lv_at hl 0 rfl) ?_
      refine x_get (C := RX10) (T := TX10) (N := 9) X hW (by omega) hO rfl lk_0 0 (by decide) lk_1 rfl dX10_rowsThere_6 ?_
      refine x_alen X hW (by omega) h1 rfl dX10_rowsThere_9 ?_
      refine x_icmp_ge (tgt := 34) X ⟨by omega, by omega⟩ ⟨by omega, by omega⟩ dX10_rowsThere_10 (by decide) (fun b_10 => ?_) (fun b_10 => ?_)
      · refine lv_iload_n X.1 X.2.1 dX10_rowsThere_34 rfl (lv_at hl 1 rfl) ?_
        exact x_iret X hr hlk hW (⟨by rw [hrs, show t = 10 from by omega], hgg⟩) dX10_rowsThere_35
      · have hrw := hrv t (by omega)
        have hro := hrw.1
        refine lv_aload_n X.1 X.2.1 dX10_rowsThere_13 rfl (lv_at hl 0 rfl) ?_
        refine x_get (C := RX10) (T := TX10) (N := 9) X hW (by omega) hO rfl lk_0 0 (by decide) lk_1 rfl dX10_rowsThere_14 ?_
        refine lv_iload_n X.1 X.2.1 dX10_rowsThere_17 rfl (lv_at hl 2 rfl) ?_
        refine x_aald X hW (by omega) h1 rfl (j := i + 142 + 2 * t) t (by omega) (by omega) (by decide) (hf1 t (by omega)) dX10_rowsThere_18 ?_
        refine x_ci (x_runV (k := 0) (As := []) (rest := []) X hW (c_X9_isThere l E A n _ gw (i + 142 + 2 * t) (rw t) (rl t) (nm t) (by omega) hrw) (by omega) hro rfl gX10_rowsThere_X9_isThere rfl rfl rfl (by decide +kernel) ⟨by decide, by decide⟩ rfl hl.1 rfl (Nat.le_of_ble_eq_true rfl) dX10_rowsThere_19 ⟨Nat.zero_le _, Nat.zero_le _⟩) hW (fun r_19 g_19 H locs hp_19 hW => ?_)
        obtain ⟨hr_19, he_19⟩ := hp_19
        rw [he_19] at hW
        subst hr_19
        refine x_if_eq (tgt := 28) X ⟨by split <;> decide, by split <;> decide⟩ dX10_rowsThere_22 (by decide) (fun b_22 => ?_) (fun b_22 => ?_)
        · have hth : rl t = -1 := Decidable.byContradiction (fun h => by rw [if_neg h] at b_22; omega)
          refine lv_iinc (v := iI (((t + 1 : Nat) : Int))) (lv' := [(2, .int (iI (((t + 1 : Nat) : Int)))), (0, .ref (A (i))), (1, .int (iI (((rs : Nat) : Int))))]) X.1 X.2.1 dX10_rowsThere_28 hl (k := 2) rfl (by rw [show (Int32.ofInt (1)) = iI (1) from rfl, iI_add]; rfl) (by decide) rfl (fun ls hl => ?_)
          refine lv_goto (tgt := 4) X.1 X.2.1 dX10_rowsThere_31 (by decide) ?_
          exact ih_4 (t + 1) rs gw _ _ _ (by omega) (by omega) (by rw [hrs]; show _ = thR rl t + (if rl t = -1 then 0 else 1); rw [if_pos hth, Nat.add_zero]) hgg hW (lv_sub hl [1, 2, 0] rfl)
        · have hth : rl t ≠ -1 := fun h => by rw [if_pos h] at b_22; exact b_22 rfl
          refine lv_iinc (v := iI (((rs + 1 : Nat) : Int))) (lv' := [(1, .int (iI (((rs + 1 : Nat) : Int)))), (0, .ref (A (i))), (2, .int (iI (((t : Nat) : Int))))]) X.1 X.2.1 dX10_rowsThere_25 hl (k := 1) rfl (by rw [show (Int32.ofInt (1)) = iI (1) from rfl, iI_add]; rfl) (by decide) rfl (fun ls hl => ?_)
          refine lv_iinc (v := iI (((t + 1 : Nat) : Int))) (lv' := [(2, .int (iI (((t + 1 : Nat) : Int)))), (1, .int (iI (((rs + 1 : Nat) : Int)))), (0, .ref (A (i)))]) X.1 X.2.1 dX10_rowsThere_28 hl (k := 2) rfl (by rw [show (Int32.ofInt (1)) = iI (1) from rfl, iI_add]; rfl) (by decide) rfl (fun ls hl => ?_)
          refine lv_goto (tgt := 4) X.1 X.2.1 dX10_rowsThere_31 (by decide) ?_
          exact ih_4 (t + 1) (rs + 1) gw _ _ _ (by omega) (by omega) (by rw [hrs]; show _ = thR rl t + (if rl t = -1 then 0 else 1); rw [if_neg hth]) hgg hW (lv_sub hl [2, 1, 0] rfl)
  exact loop_4 _ 0 0 g _ _ _ (Nat.lt_succ_self _) (by omega) rfl rfl hW (lv_sub hl [2, 1, 0] rfl)
