/-! ===== the class's Row ===== -/
def RowV (E : wE) (A : Nat → Nat) (g : Nat → va_E) (i : Nat) (w ln : Int) (nm : Nat → Int) : Prop := g i = .inr (9, [.ref (A (i + 1)), .int (iI (w)), .int (iI (ln))]) ∧ (0 ≤ w ∧ w ≤ 3) ∧ (-1 ≤ ln ∧ ln ≤ 40) ∧ ∃ f : Nat → Int64, g (i + 1) = aJ E 40 f ∧ ∀ k, k < 40 → I64 (nm k) ∧ f k = lI (nm k)
theorem RowV.frame {E : wE} {A : Nat → Nat} {g g' : Nat → va_E} {i : Nat} {w ln : Int} {nm : Nat → Int} (h : RowV E A g i w ln nm) (h1 : g' i = g i) (h2 : g' (i + 1) = g (i + 1)) : RowV E A g' i w ln nm := by
  obtain ⟨a, b, c, f, d, e⟩ := h
  exact ⟨h1.trans a, b, c, f, h2.trans d, e⟩
def cutL (w : Int) (x : Int64) : Int64 := if w = 0 then x.toInt32.toInt8.toInt32.toInt64 else if w = 1 then x.toInt32.toInt16.toInt32.toInt64 else if w = 2 then x.toInt32.toInt64 else x
theorem i_l (x : Int32) : lI x.toInt = x.toInt64 := by
  conv => rhs; rw [iI_of x]
  exact (iI_l (I32_of x)).symm

set_option maxHeartbeats 4000000 in
set_option maxRecDepth 100000 in
/-- isThere -/
theorem c_X9_isThere (l : Launch) (E : wE) (A : Nat → Nat) (n sz : Nat) (g : Nat → va_E) (i : Nat) (w ln : Int) (nm : Nat → Int) (hi : i + 1 < n) (hR : RowV E A g i w ln nm) : Met l yX9_isThere wsX9_isThere ({ frames := 1, cells := 0, slots := 0, locals := 30 } : Room) (va_Pc [.ref (A (i))] (wPre E A n sz g)) (va_Qi (fun r g' => r = iI (if ln = -1 then 0 else 1) ∧ g' = g) (wAt E A n) (wF A n sz)) 0 0 (wF A n sz) := by
  refine x_met (cc := cX9_isThere) (maxL := 1) (ret := (some .boolean)) [.ref (A (i))] (by decide) rfl (Nat.le_of_ble_eq_true rfl) ?_
  intro p e s m below meth c ls X hr hlk hnm hsz hW hl
  have hl : lv_has ls 1 [(0, .ref (A (i)))] := hl
  have lk_0 : ∀ w ∈ wsX90, w ∈ wsX9_isThere := by decide +kernel
  have lk_1 : Cond.fieldLink RX9 19 (TX9 2).1 (TX9 2).2.1 (TX9 2).2.2.1 ∈ wsX9_isThere := by decide +kernel
  obtain ⟨h0, hw, hln, f, h1, hf⟩ := hR
  obtain ⟨hw1, hw2⟩ := hw
  obtain ⟨hl1, hl2⟩ := hln
  refine lv_aload_n X.1 X.2.1 dX9_isThere_0 rfl (lv_at hl 0 rfl) ?_
  refine x_get (C := RX9) (T := TX9) (N := 3) X hW (by omega) h0 rfl lk_0 2 (by decide) lk_1 rfl dX9_isThere_1 ?_
  refine x_iconst X dX9_isThere_4 ?_
  refine x_icmp_eq (tgt := 12) X ⟨by omega, by omega⟩ ⟨by decide, by decide⟩ dX9_isThere_5 (by decide) (fun b_5 => ?_) (fun b_5 => ?_)
  · refine x_iconst X dX9_isThere_12 ?_
    exact x_zret X hr hlk (by decide) hW (⟨by congr 1; repeat (first | rfl | omega | split), rfl⟩) dX9_isThere_13
  · refine x_iconst X dX9_isThere_8 ?_
    refine lv_goto (tgt := 13) X.1 X.2.1 dX9_isThere_9 (by decide) ?_
    exact x_zret X hr hlk (by decide) hW (⟨by congr 1; repeat (first | rfl | omega | split), rfl⟩) dX9_isThere_13

set_option maxHeartbeats 4000000 in
set_option maxRecDepth 100000 in
/-- lay -/
theorem c_X9_lay (l : Launch) (E : wE) (A : Nat → Nat) (n sz : Nat) (g : Nat → va_E) (i : Nat) (w ln : Int) (nm : Nat → Int) (w2 n2 : Int) (hi : i + 1 < n) (hR : RowV E A g i w ln nm) (ha : 0 ≤ w2) (hb : w2 ≤ 3) (hc : 0 ≤ n2) (hd : n2 ≤ 40) : Met l yX9_lay wsX9_lay ({ frames := 2, cells := 0, slots := 0, locals := 80 } : Room) (va_Pc [.ref (A (i)), .int (iI (w2)), .int (iI (n2))] (wPre E A n sz g)) (va_Qv (fun g' => RowV E A g' i w2 n2 (fun _ => 0) ∧ ∀ j, (j < i ∨ i + 1 < j) → g' j = g j) (wAt E A n) (wF A n sz)) 0 0 (wF A n sz) := by
  refine x_met (cc := cX9_lay) (maxL := 3) (ret := none) [.ref (A (i)), .int (iI (w2)), .int (iI (n2))] (by decide) rfl (Nat.le_of_ble_eq_true rfl) ?_
  intro p e s m below meth c ls X hr hlk hnm hsz hW hl
  have hl : lv_has ls 3 [(0, .ref (A (i))), (1, .int (iI (w2))), (2, .int (iI (n2)))] := hl
  have lk_0 : ∀ w ∈ wsX90, w ∈ wsX9_lay := by decide +kernel
  have lk_1 : Cond.fieldLink RX9 9 (TX9 0).1 (TX9 0).2.1 (TX9 0).2.2.1 ∈ wsX9_lay := by decide +kernel
  have lk_2 : Cond.fieldLink RX9 15 (TX9 1).1 (TX9 1).2.1 (TX9 1).2.2.1 ∈ wsX9_lay := by decide +kernel
  have lk_3 : Cond.methodLink RX9 28 Lib.Math.min.name ∈ wsX9_lay := by decide +kernel
  have lk_4 : Cond.static Lib.Math.min.name ∈ wsX9_lay := by decide +kernel
  have lk_5 : Cond.initialized "java/lang/Math" ∈ wsX9_lay := by decide +kernel
  have lk_6 : Cond.code Lib.Math.min.name Lib.Math.min.code 2 (some .int) ∈ wsX9_lay := by decide +kernel
  have lk_7 : Cond.fieldLink RX9 19 (TX9 2).1 (TX9 2).2.1 (TX9 2).2.2.1 ∈ wsX9_lay := by decide +kernel
  obtain ⟨h0, hw, hln, f, h1, hf⟩ := hR
  obtain ⟨hw1, hw2⟩ := hw
  obtain ⟨hl1, hl2⟩ := hln
  refine lv_aload_n X.1 X.2.1 dX9_lay_0 rfl (lv_at hl 0 rfl) ?_
  refine x_get (C := RX9) (T := TX9) (N := 3) X hW (by omega) h0 rfl lk_0 0 (by decide) lk_1 rfl dX9_lay_1 ?_
  refine x_lconst X 0 (by decide) dX9_lay_4 ?_
  refine x_cv (x_runS (k := 2) (As := [.ref (A (i + 1)), .long (lI (0))]) (rest := []) X hW (c_J7_fill_d0a16 l E A n _ g (i + 1) 40 f 0 (by omega) (by decide) h1) gX9_lay_J7_fill_d0a16 rfl rfl rfl (by decide +kernel) ⟨by decide, by decide⟩ rfl hl.1 rfl (Nat.le_of_ble_eq_true rfl) dX9_lay_5 ⟨Nat.zero_le _, Nat.zero_le _⟩) hW (fun g_5 H locs hp_5 hW => ?_)
  obtain ⟨⟨f2, hf2, hf3⟩, hf_5⟩ := hp_5
  have h0 : g_5 i = .inr (9, [.ref (A (i + 1)), .int (iI (w)), .int (iI (ln))]) := by rw [hf_5 _ (by omega)]; exact h0
  refine lv_aload_n X.1 X.2.1 dX9_lay_8 rfl (lv_at hl 0 rfl) ?_
  refine lv_iload_n X.1 X.2.1 dX9_lay_9 rfl (lv_at hl 1 rfl) ?_
  refine x_put (C := RX9) (T := TX9) (N := 3) X hW (by omega) h0 rfl lk_0 tyX9 tyX9_ok nmX9 1 (by decide) lk_2 rfl rfl rfl (Nat.le_of_ble_eq_true rfl) dX9_lay_10 (fun g_10 H locs hg_10 hW => ?_)
  have hf2 : g_10 (i + 1) = aJ E 40 f2 := by rw [hg_10, va_up_ne _ _ (by omega)]; exact hf2
  have h0 : g_10 i = .inr (9, [.ref (A (i + 1)), .int (iI (w2)), .int (iI (ln))]) := by rw [hg_10]; exact va_up_self _ _ _
  refine lv_aload_n X.1 X.2.1 dX9_lay_13 rfl (lv_at hl 0 rfl) ?_
  refine lv_iload_n X.1 X.2.1 dX9_lay_14 rfl (lv_at hl 2 rfl) ?_
  refine x_bipush X (by decide) dX9_lay_15 ?_
  refine x_mmini X hl.1 ⟨by omega, by omega⟩ ⟨by decide, by decide⟩ lk_3 lk_4 lk_5 lk_6 (by decide) (Nat.le_of_ble_eq_true rfl) (Nat.zero_le _) (Nat.zero_le _) dX9_lay_17 ?_
  refine x_seti n2 (by rw [if_neg (by omega)]) ?_
  refine x_put (C := RX9) (T := TX9) (N := 3) X hW (by omega) h0 rfl lk_0 tyX9 tyX9_ok nmX9 2 (by decide) lk_7 rfl rfl rfl (Nat.le_of_ble_eq_true rfl) dX9_lay_20 (fun g_20 H locs hg_20 hW => ?_)
  have hf2 : g_20 (i + 1) = aJ E 40 f2 := by rw [hg_20, va_up_ne _ _ (by omega)]; exact hf2
  have h0 : g_20 i = .inr (9, [.ref (A (i + 1)), .int (iI (w2)), .int (iI (n2))]) := by rw [hg_20]; exact va_up_self _ _ _
  exact x_vret X hr hlk hW (⟨⟨h0, ⟨ha, hb⟩, ⟨by omega, hd⟩, f2, hf2, fun k hk => ⟨I64_0, hf3 k hk⟩⟩, fun j hj => by rw [hg_20, va_up_ne _ _ (by omega), hg_10, va_up_ne _ _ (by omega)]; exact hf_5 j (by omega)⟩) dX9_lay_23

set_option maxHeartbeats 4000000 in
set_option maxRecDepth 100000 in
/-- remove -/
theorem c_X9_remove (l : Launch) (E : wE) (A : Nat → Nat) (n sz : Nat) (g : Nat → va_E) (i : Nat) (w ln : Int) (nm : Nat → Int) (hi : i + 1 < n) (hR : RowV E A g i w ln nm) : Met l yX9_remove wsX9_remove ({ frames := 1, cells := 0, slots := 0, locals := 30 } : Room) (va_Pc [.ref (A (i))] (wPre E A n sz g)) (va_Qv (fun g' => RowV E A g' i w (-1) nm ∧ ∀ j, (j < i ∨ i + 1 < j) → g' j = g j) (wAt E A n) (wF A n sz)) 0 0 (wF A n sz) := by
  refine x_met (cc := cX9_remove) (maxL := 1) (ret := none) [.ref (A (i))] (by decide) rfl (Nat.le_of_ble_eq_true rfl) ?_
  intro p e s m below meth c ls X hr hlk hnm hsz hW hl
  have hl : lv_has ls 1 [(0, .ref (A (i)))] := hl
  have lk_0 : ∀ w ∈ wsX90, w ∈ wsX9_remove := by decide +kernel
  have lk_1 : Cond.fieldLink RX9 19 (TX9 2).1 (TX9 2).2.1 (TX9 2).2.2.1 ∈ wsX9_remove := by decide +kernel
  obtain ⟨h0, hw, hln, f, h1, hf⟩ := hR
  obtain ⟨hw1, hw2⟩ := hw
  obtain ⟨hl1, hl2⟩ := hln
  refine lv_aload_n X.1 X.2.1 dX9_remove_0 rfl (lv_at hl 0 rfl) ?_
  refine x_iconst X dX9_remove_1 ?_
  refine x_put (C := RX9) (T := TX9) (N := 3) X hW (by omega) h0 rfl lk_0 tyX9 tyX9_ok nmX9 2 (by decide) lk_1 rfl rfl rfl (Nat.le_of_ble_eq_true rfl) dX9_remove_2 (fun g_2 H locs hg_2 hW => ?_)
  have h1 : g_2 (i + 1) = aJ E 40 f := by rw [hg_2, va_up_ne _ _ (by omega)]; exact h1
  have h0 : g_2 i = .inr (9, [.ref (A (i + 1)), .int (iI (w)), .int (iI ((-1)))]) := by rw [hg_2]; exact va_up_self _ _ _
  exact x_vret X hr hlk hW (⟨⟨h0, ⟨hw1, hw2⟩, ⟨by omega, by omega⟩, f, h1, hf⟩, fun j hj => by rw [hg_2, va_up_ne _ _ (by omega)]⟩) dX9_remove_5

set_option maxHeartbeats 4000000 in
set_option maxRecDepth 100000 in
/-- cut -/
theorem c_X9_cut (l : Launch) (E : wE) (A : Nat → Nat) (n sz : Nat) (g : Nat → va_E) (i : Nat) (w ln : Int) (nm : Nat → Int) (v : Int) (hi : i + 1 < n) (hR : RowV E A g i w ln nm) (hv : I64 v) : Met l yX9_cut wsX9_cut ({ frames := 1, cells := 0, slots := 0, locals := 30 } : Room) (va_Pc [.ref (A (i)), .long (lI (v))] (wPre E A n sz g)) (va_Ql (fun r g' => r = cutL w (lI v) ∧ g' = g) (wAt E A n) (wF A n sz)) 0 0 (wF A n sz) := by
  refine x_met (cc := cX9_cut) (maxL := 3) (ret := (some .long)) [.ref (A (i)), .long (lI (v))] (by decide) rfl (Nat.le_of_ble_eq_true rfl) ?_
  intro p e s m below meth c ls X hr hlk hnm hsz hW hl
  have hl : lv_has ls 3 [(0, .ref (A (i))), (1, .long (lI (v)))] := hl
  have lk_0 : ∀ w ∈ wsX90, w ∈ wsX9_cut := by decide +kernel
  have lk_1 : Cond.fieldLink RX9 15 (TX9 1).1 (TX9 1).2.1 (TX9 1).2.2.1 ∈ wsX9_cut := by decide +kernel
  obtain ⟨h0, hw, hln, f, h1, hf⟩ := hR
  obtain ⟨hw1, hw2⟩ := hw
  obtain ⟨hl1, hl2⟩ := hln
  refine lv_aload_n X.1 X.2.1 dX9_cut_0 rfl (lv_at hl 0 rfl) ?_
  refine x_get (C := RX9) (T := TX9) (N := 3) X hW (by omega) h0 rfl lk_0 1 (by decide) lk_1 rfl dX9_cut_1 ?_
  by_cases e_4_0 : w = 0
  · have hx_4 : (iI (w)).toInt = 0 := by rw [iI_toInt ⟨by omega, by omega⟩]; exact e_4_0
    refine lv_tableIn (off := 28) (tgt := 32) X.1 X.2.1 dX9_cut_4 (by rw [hx_4]; decide) (by rw [hx_4]; decide) (by rw [hx_4]; rfl) (by decide) ?_
    refine lv_lload_n X.1 X.2.1 dX9_cut_32 rfl (lv_at hl 1 rfl) ?_
    refine x_l2i X dX9_cut_33 ?_
    refine lv_i2b (v := iI ((iI v).toInt8.toInt32.toInt)) X.1 X.2.1 dX9_cut_34 (iI_of _) ?_
    refine x_i2l X (I32_of _) dX9_cut_35 ?_
    exact x_lret X hr hlk hW (⟨by rw [i_l]; unfold cutL; rw [if_pos e_4_0, lI_i], rfl⟩) dX9_cut_36
  by_cases e_4_1 : w = 1
  · have hx_4 : (iI (w)).toInt = 1 := by rw [iI_toInt ⟨by omega, by omega⟩]; exact e_4_1
    refine lv_tableIn (off := 33) (tgt := 37) X.1 X.2.1 dX9_cut_4 (by rw [hx_4]; decide) (by rw [hx_4]; decide) (by rw [hx_4]; rfl) (by decide) ?_
    refine lv_lload_n X.1 X.2.1 dX9_cut_37 rfl (lv_at hl 1 rfl) ?_
    refine x_l2i X dX9_cut_38 ?_
    refine lv_i2s (v := iI ((iI v).toInt16.toInt32.toInt)) X.1 X.2.1 dX9_cut_39 (iI_of _) ?_
    refine x_i2l X (I32_of _) dX9_cut_40 ?_
    exact x_lret X hr hlk hW (⟨by rw [i_l]; unfold cutL; rw [if_neg e_4_0, if_pos e_4_1, lI_i], rfl⟩) dX9_cut_41
  by_cases e_4_2 : w = 2
  · have hx_4 : (iI (w)).toInt = 2 := by rw [iI_toInt ⟨by omega, by omega⟩]; exact e_4_2
    refine lv_tableIn (off := 38) (tgt := 42) X.1 X.2.1 dX9_cut_4 (by rw [hx_4]; decide) (by rw [hx_4]; decide) (by rw [hx_4]; rfl) (by decide) ?_
    refine lv_lload_n X.1 X.2.1 dX9_cut_42 rfl (lv_at hl 1 rfl) ?_
    refine x_l2i X dX9_cut_43 ?_
    refine x_topi (iI ((iI v).toInt)) (iI_of _) ?_
    refine x_i2l X (I32_of _) dX9_cut_44 ?_
    exact x_lret X hr hlk hW (⟨by rw [i_l]; unfold cutL; rw [if_neg e_4_0, if_neg e_4_1, if_pos e_4_2, lI_i], rfl⟩) dX9_cut_45
  refine lv_tableOut (tgt := 46) X.1 X.2.1 dX9_cut_4 (by rw [iI_toInt ⟨by omega, by omega⟩]; omega) (by decide) ?_
  refine lv_lload_n X.1 X.2.1 dX9_cut_46 rfl (lv_at hl 1 rfl) ?_
  exact x_lret X hr hlk hW (⟨by unfold cutL; rw [if_neg e_4_0, if_neg e_4_1, if_neg e_4_2], rfl⟩) dX9_cut_47

set_option maxHeartbeats 4000000 in
set_option maxRecDepth 100000 in
/-- put -/
theorem c_X9_put (l : Launch) (E : wE) (A : Nat → Nat) (n sz : Nat) (g : Nat → va_E) (i : Nat) (w ln : Int) (nm : Nat → Int) (z v : Int) (hi : i + 1 < n) (hR : RowV E A g i w ln nm) (hz : I32 z) (hv : I64 v) : Met l yX9_put wsX9_put ({ frames := 2, cells := 0, slots := 0, locals := 80 } : Room) (va_Pc [.ref (A (i)), .int (iI (z)), .long (lI (v))] (wPre E A n sz g)) (va_Qi (fun r g' => (r = iI (if 0 ≤ z ∧ z ≤ ln - 1 then 1 else 0)) ∧ RowV E A g' i w ln (if 0 ≤ z ∧ z ≤ ln - 1 then va_up nm z.toNat (cutL w (lI v)).toInt else nm) ∧ ∀ j, (j < i ∨ i + 1 < j) → g' j = g j) (wAt E A n) (wF A n sz)) 0 0 (wF A n sz) := by
  refine x_met (cc := cX9_put) (maxL := 4) (ret := (some .boolean)) [.ref (A (i)), .int (iI (z)), .long (lI (v))] (by decide) rfl (Nat.le_of_ble_eq_true rfl) ?_
  intro p e s m below meth c ls X hr hlk hnm hsz hW hl
  have hl : lv_has ls 4 [(0, .ref (A (i))), (1, .int (iI (z))), (2, .long (lI (v)))] := hl
  have lk_0 : ∀ w ∈ wsX90, w ∈ wsX9_put := by decide +kernel
  have lk_1 : Cond.fieldLink RX9 19 (TX9 2).1 (TX9 2).2.1 (TX9 2).2.2.1 ∈ wsX9_put := by decide +kernel
  have lk_2 : Cond.initialized yX10_isWithin.cls ∈ wsX9_put := by decide +kernel
  have lk_3 : Cond.static yX10_isWithin ∈ wsX9_put := by decide +kernel
  have lk_4 : Cond.fieldLink RX9 9 (TX9 0).1 (TX9 0).2.1 (TX9 0).2.2.1 ∈ wsX9_put := by decide +kernel
  have hR0 := hR
  obtain ⟨h0, hw, hln, f, h1, hf⟩ := hR
  obtain ⟨hw1, hw2⟩ := hw
  obtain ⟨hl1, hl2⟩ := hln
  have hz1 := hz.1
  have hz2 := hz.2
  refine lv_iload_n X.1 X.2.1 dX9_put_0 rfl (lv_at hl 1 rfl) ?_
  refine x_i2l X hz dX9_put_1 ?_
  refine x_lconst X 0 (by decide) dX9_put_2 ?_
  refine lv_aload_n X.1 X.2.1 dX9_put_3 rfl (lv_at hl 0 rfl) ?_
  refine x_get (C := RX9) (T := TX9) (N := 3) X hW (by omega) h0 rfl lk_0 2 (by decide) lk_1 rfl dX9_put_4 ?_
  refine x_iconst X dX9_put_7 ?_
  refine x_isub X dX9_put_8 ?_
  refine x_i2l X ⟨by omega, by omega⟩ dX9_put_9 ?_
  refine x_ci (x_runSN (k := 3) (As := [.long (lI (z)), .long (lI (0)), .long (lI (ln - 1))]) (rest := []) X hW (c_X10_isWithin l E A n _ g z 0 (ln - 1) ⟨by omega, by omega⟩ I64_0 ⟨by omega, by omega⟩) gX9_put_X10_isWithin_n34 rfl rfl rfl (by decide +kernel) lk_2 lk_3 (by decide +kernel) ⟨by decide, by decide⟩ rfl hl.1 rfl (Nat.le_of_ble_eq_true rfl) dX9_put_10 ⟨Nat.zero_le _, Nat.zero_le _⟩) hW (fun r_10 g_10 H locs hp_10 hW => ?_)
  obtain ⟨hr_10, he_10⟩ := hp_10
  rw [he_10] at hW
  subst hr_10
  refine x_if_ne (tgt := 18) X ⟨by split <;> decide, by split <;> decide⟩ dX9_put_13 (by decide) (fun b_13 => ?_) (fun b_13 => ?_)
  · have hz5 : 0 ≤ z ∧ z ≤ ln - 1 := Decidable.byContradiction (fun h => by rw [if_neg h] at b_13; exact b_13 rfl)
    refine lv_aload_n X.1 X.2.1 dX9_put_18 rfl (lv_at hl 0 rfl) ?_
    refine x_get (C := RX9) (T := TX9) (N := 3) X hW (by omega) h0 rfl lk_0 0 (by decide) lk_4 rfl dX9_put_19 ?_
    refine lv_iload_n X.1 X.2.1 dX9_put_22 rfl (lv_at hl 1 rfl) ?_
    refine lv_aload_n X.1 X.2.1 dX9_put_23 rfl (lv_at hl 0 rfl) ?_
    refine lv_lload_n X.1 X.2.1 dX9_put_24 rfl (lv_at hl 2 rfl) ?_
    refine x_cl (x_runV (k := 1) (As := [.long (lI (v))]) (rest := [.int (iI (z)), .ref (A (i + 1))]) X hW (c_X9_cut l E A n _ g i w ln nm v hi ⟨h0, ⟨hw1, hw2⟩, ⟨hl1, hl2⟩, f, h1, hf⟩ hv) (by omega) h0 rfl gX9_put_X9_cut rfl rfl rfl (by decide +kernel) ⟨by decide, by decide⟩ rfl hl.1 rfl (Nat.le_of_ble_eq_true rfl) dX9_put_25 ⟨Nat.zero_le _, Nat.zero_le _⟩) hW (fun r_25 g_25 H locs hp_25 hW => ?_)
    obtain ⟨hr_25, he_25⟩ := hp_25
    rw [he_25] at hW
    refine x_topl (lI ((cutL w (lI v)).toInt)) (by rw [hr_25]; exact lI_of _) ?_
    refine x_last X hW (by omega) h1 z.toNat (by omega) (by omega) (by decide) dX9_put_28 (fun g_28 H locs hg_28 hW => ?_)
    have h0 : g_28 i = .inr (9, [.ref (A (i + 1)), .int (iI (w)), .int (iI (ln))]) := by rw [hg_28, va_up_ne _ _ (by omega)]; exact h0
    have h1 : g_28 (i + 1) = aJ E 40 (vp_updL f z.toNat (lI ((cutL w (lI v)).toInt))) := by rw [hg_28]; exact va_up_self _ _ _
    refine x_iconst X dX9_put_29 ?_
    exact x_zret X hr hlk (by decide) hW (⟨by rw [if_pos hz5], by rw [if_pos hz5]; exact ⟨h0, ⟨hw1, hw2⟩, ⟨hl1, hl2⟩, _, h1, fun k hk => by
        by_cases e9 : k = z.toNat
        · rw [e9, va_up_self, pk_uLs]; exact ⟨I64_of _, rfl⟩
        · rw [va_up_ne _ _ e9, pk_uLn e9]; exact hf k hk⟩, fun j hj => by rw [hg_28, va_up_ne _ _ (by omega)]⟩) dX9_put_30
  · have hz5 : ¬ (0 ≤ z ∧ z ≤ ln - 1) := fun h => by rw [if_pos h] at b_13; omega
    refine x_iconst X dX9_put_16 ?_
    exact x_zret X hr hlk (by decide) hW (⟨by rw [if_neg hz5], by rw [if_neg hz5]; exact hR0, fun _ _ => rfl⟩) dX9_put_17

/-- the number at a place of a row, if it is there and as told -/
def rdz (nm : Nat → Int) (ln z lo hi : Int) : Int := if 0 ≤ z ∧ z ≤ ln - 1 then (if lo ≤ nm z.toNat ∧ nm z.toNat ≤ hi then nm z.toNat else -4) else -6

set_option maxHeartbeats 4000000 in
set_option maxRecDepth 100000 in
/-- read -/
theorem c_X9_read (l : Launch) (E : wE) (A : Nat → Nat) (n sz : Nat) (g : Nat → va_E) (i : Nat) (w ln : Int) (nm : Nat → Int) (z lo hi : Int) (hhi : i + 1 < n) (hR : RowV E A g i w ln nm) (hz : I32 z) (hlo : I32 lo) (hh : I32 hi) : Met l yX9_read wsX9_read ({ frames := 2, cells := 0, slots := 0, locals := 80 } : Room) (va_Pc [.ref (A (i)), .int (iI (z)), .int (iI (lo)), .int (iI (hi))] (wPre E A n sz g)) (va_Qi (fun r g' => r = iI (rdz nm ln z lo hi) ∧ g' = g) (wAt E A n) (wF A n sz)) 0 0 (wF A n sz) := by
  refine x_met (cc := cX9_read) (maxL := 4) (ret := (some .int)) [.ref (A (i)), .int (iI (z)), .int (iI (lo)), .int (iI (hi))] (by decide) rfl (Nat.le_of_ble_eq_true rfl) ?_
  intro p e s m below meth c ls X hr hlk hnm hsz hW hl
  have hl : lv_has ls 4 [(0, .ref (A (i))), (1, .int (iI (z))), (2, .int (iI (lo))), (3, .int (iI (hi)))] := hl
  have lk_0 : ∀ w ∈ wsX90, w ∈ wsX9_read := by decide +kernel
  have lk_1 : Cond.fieldLink RX9 19 (TX9 2).1 (TX9 2).2.1 (TX9 2).2.2.1 ∈ wsX9_read := by decide +kernel
  have lk_2 : Cond.initialized yX10_isWithin.cls ∈ wsX9_read := by decide +kernel
  have lk_3 : Cond.static yX10_isWithin ∈ wsX9_read := by decide +kernel
  have lk_4 : Cond.fieldLink RX9 9 (TX9 0).1 (TX9 0).2.1 (TX9 0).2.2.1 ∈ wsX9_read := by decide +kernel
  obtain ⟨h0, hw, hln, f, h1, hf⟩ := hR
  obtain ⟨hw1, hw2⟩ := hw
  obtain ⟨hl1, hl2⟩ := hln
  have hz1 := hz.1
  have hz2 := hz.2
  have hlo1 := hlo.1
  have hlo2 := hlo.2
  have hh1 := hh.1
  have hh2 := hh.2
  refine lv_iload_n X.1 X.2.1 dX9_read_0 rfl (lv_at hl 1 rfl) ?_
  refine x_i2l X hz dX9_read_1 ?_
  refine x_lconst X 0 (by decide) dX9_read_2 ?_
  refine lv_aload_n X.1 X.2.1 dX9_read_3 rfl (lv_at hl 0 rfl) ?_
  refine x_get (C := RX9) (T := TX9) (N := 3) X hW (by omega) h0 rfl lk_0 2 (by decide) lk_1 rfl dX9_read_4 ?_
  refine x_iconst X dX9_read_7 ?_
  refine x_isub X dX9_read_8 ?_
  refine x_i2l X ⟨by omega, by omega⟩ dX9_read_9 ?_
  refine x_ci (x_runSN (k := 3) (As := [.long (lI (z)), .long (lI (0)), .long (lI (ln - 1))]) (rest := []) X hW (c_X10_isWithin l E A n _ g z 0 (ln - 1) ⟨by omega, by omega⟩ I64_0 ⟨by omega, by omega⟩) gX9_read_X10_isWithin_n34 rfl rfl rfl (by decide +kernel) lk_2 lk_3 (by decide +kernel) ⟨by decide, by decide⟩ rfl hl.1 rfl (Nat.le_of_ble_eq_true rfl) dX9_read_10 ⟨Nat.zero_le _, Nat.zero_le _⟩) hW (fun r_10 g_10 H locs hp_10 hW => ?_)
  obtain ⟨hr_10, he_10⟩ := hp_10
  rw [he_10] at hW
  subst hr_10
  refine x_if_ne (tgt := 19) X ⟨by split <;> decide, by split <;> decide⟩ dX9_read_13 (by decide) (fun b_13 => ?_) (fun b_13 => ?_)
  · have hz5 : 0 ≤ z ∧ z ≤ ln - 1 := Decidable.byContradiction (fun h => by rw [if_neg h] at b_13; exact b_13 rfl)
    refine lv_aload_n X.1 X.2.1 dX9_read_19 rfl (lv_at hl 0 rfl) ?_
    refine x_get (C := RX9) (T := TX9) (N := 3) X hW (by omega) h0 rfl lk_0 0 (by decide) lk_4 rfl dX9_read_20 ?_
    refine lv_iload_n X.1 X.2.1 dX9_read_23 rfl (lv_at hl 1 rfl) ?_
    refine x_lald X hW (by omega) h1 (v := lI (nm z.toNat)) z.toNat (by omega) (by omega) (by decide) ((hf z.toNat (by omega)).2) dX9_read_24 ?_
    refine lv_iload_n X.1 X.2.1 dX9_read_25 rfl (lv_at hl 2 rfl) ?_
    refine x_i2l X hlo dX9_read_26 ?_
    refine lv_iload_n X.1 X.2.1 dX9_read_27 rfl (lv_at hl 3 rfl) ?_
    refine x_i2l X hh dX9_read_28 ?_
    refine x_ci (x_runSN (k := 3) (As := [.long (lI (nm z.toNat)), .long (lI (lo)), .long (lI (hi))]) (rest := []) X hW (c_X10_isWithin l E A n _ g (nm z.toNat) lo hi (hf z.toNat (by omega)).1 ⟨by omega, by omega⟩ ⟨by omega, by omega⟩) gX9_read_X10_isWithin_n34 rfl rfl rfl (by decide +kernel) lk_2 lk_3 (by decide +kernel) ⟨by decide, by decide⟩ rfl hl.1 rfl (Nat.le_of_ble_eq_true rfl) dX9_read_29 ⟨Nat.zero_le _, Nat.zero_le _⟩) hW (fun r_29 g_29 H locs hp_29 hW => ?_)
    obtain ⟨hr_29, he_29⟩ := hp_29
    rw [he_29] at hW
    subst hr_29
    refine x_if_eq (tgt := 45) X ⟨by split <;> decide, by split <;> decide⟩ dX9_read_32 (by decide) (fun b_32 => ?_) (fun b_32 => ?_)
    · have hz6 : ¬ (lo ≤ nm z.toNat ∧ nm z.toNat ≤ hi) := fun h => by rw [if_pos h] at b_32; omega
      refine x_bipush X (by decide) dX9_read_45 ?_
      exact x_iret X hr hlk hW (⟨by unfold rdz; rw [if_pos hz5]; first | rw [if_pos hz6] | rw [if_neg hz6], rfl⟩) dX9_read_47
    · have hz6 : lo ≤ nm z.toNat ∧ nm z.toNat ≤ hi := Decidable.byContradiction (fun h => by rw [if_neg h] at b_32; exact b_32 rfl)
      refine lv_aload_n X.1 X.2.1 dX9_read_35 rfl (lv_at hl 0 rfl) ?_
      refine x_get (C := RX9) (T := TX9) (N := 3) X hW (by omega) h0 rfl lk_0 0 (by decide) lk_4 rfl dX9_read_36 ?_
      refine lv_iload_n X.1 X.2.1 dX9_read_39 rfl (lv_at hl 1 rfl) ?_
      refine x_lald X hW (by omega) h1 (v := lI (nm z.toNat)) z.toNat (by omega) (by omega) (by decide) ((hf z.toNat (by omega)).2) dX9_read_40 ?_
      refine x_l2i X dX9_read_41 ?_
      refine lv_goto (tgt := 47) X.1 X.2.1 dX9_read_42 (by decide) ?_
      exact x_iret X hr hlk hW (⟨by unfold rdz; rw [if_pos hz5]; first | rw [if_pos hz6] | rw [if_neg hz6], rfl⟩) dX9_read_47
  · have hz5 : ¬ (0 ≤ z ∧ z ≤ ln - 1) := fun h => by rw [if_pos h] at b_13; omega
    refine x_bipush X (by decide) dX9_read_16 ?_
    exact x_iret X hr hlk hW (⟨by unfold rdz; rw [if_neg hz5], rfl⟩) dX9_read_18
