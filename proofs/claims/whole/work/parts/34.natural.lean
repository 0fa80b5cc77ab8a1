set_option maxHeartbeats 4000000 in
set_option maxRecDepth 100000 in
theorem c_J6_compare_7cf53 (l : Launch) (E : wE) (A : Nat → Nat) (n sz : Nat) (g : Nat → va_E) (a b : Int) (ha : I32 a) (hb : I32 b) : Met l yJ6_compare_7cf53 wsJ6_compare_7cf53 ({ frames := 1, cells := 0, slots := 0, locals := 30 } : Room) (va_Pc [.int (iI (a)), .int (iI (b))] (wPre E A n sz g)) (va_Qi (fun r g' => r = iI (if a < b then -1 else if a = b then 0 else 1) ∧ g' = g) (wAt E A n) (wF A n sz)) 0 0 (wF A n sz) := by
  refine x_met (cc := cJ6_compare_7cf53) (maxL := 2) (ret := (some .int)) [.int (iI (a)), .int (iI (b))] (by decide) rfl (Nat.le_of_ble_eq_true rfl) ?_
  intro p e s m below meth c ls X hr hlk hnm hsz hW hl
  have hl : lv_has ls 2 [(0, .int (iI (a))), (1, .int (iI (b)))] := hl
  refine lv_iload_n X.1 X.2.1 dJ6_compare_7cf53_0 rfl (lv_at hl 0 rfl) ?_
  refine lv_iload_n X.1 X.2.1 dJ6_compare_7cf53_1 rfl (lv_at hl 1 rfl) ?_
  refine x_icmp_ge (tgt := 9) X ha hb dJ6_compare_7cf53_2 (by decide) (fun b_2 => ?_) (fun b_2 => ?_)
  · refine lv_iload_n X.1 X.2.1 dJ6_compare_7cf53_9 rfl (lv_at hl 0 rfl) ?_
    refine lv_iload_n X.1 X.2.1 dJ6_compare_7cf53_10 rfl (lv_at hl 1 rfl) ?_
    refine x_icmp_ne (tgt := 18) X ha hb dJ6_compare_7cf53_11 (by decide) (fun b_11 => ?_) (fun b_11 => ?_)
    · refine x_iconst X dJ6_compare_7cf53_18 ?_
      exact x_iret X hr hlk hW (⟨by congr 1; repeat (first | rfl | omega | split), rfl⟩) dJ6_compare_7cf53_19
    · refine x_iconst X dJ6_compare_7cf53_14 ?_
      refine lv_goto (tgt := 19) X.1 X.2.1 dJ6_compare_7cf53_15 (by decide) ?_
      exact x_iret X hr hlk hW (⟨by congr 1; repeat (first | rfl | omega | split), rfl⟩) dJ6_compare_7cf53_19
  · refine x_iconst X dJ6_compare_7cf53_5 ?_
    refine lv_goto (tgt := 19) X.1 X.2.1 dJ6_compare_7cf53_6 (by decide) ?_
    exact x_iret X hr hlk hW (⟨by congr 1; repeat (first | rfl | omega | split), rfl⟩) dJ6_compare_7cf53_19

set_option maxHeartbeats 4000000 in
set_option maxRecDepth 100000 in
theorem c_X10_isWithin (l : Launch) (E : wE) (A : Nat → Nat) (n sz : Nat) (g : Nat → va_E) (v lo hi : Int) (hv : I64 v) (hlo : I64 lo) (hhi : I64 hi) : Met l yX10_isWithin wsX10_isWithin ({ frames := 1, cells := 0, slots := 0, locals := 30 } : Room) (va_Pc [.long (lI (v)), .long (lI (lo)), .long (lI (hi))] (wPre E A n sz g)) (va_Qi (fun r g' => r = iI (if lo ≤ v ∧ v ≤ hi then 1 else 0) ∧ g' = g) (wAt E A n) (wF A n sz)) 0 0 (wF A n sz) := by
  refine x_met (cc := cX10_isWithin) (maxL := 6) (ret := (some .boolean)) [.long (lI (v)), .long (lI (lo)), .long (lI (hi))] (by decide) rfl (Nat.le_of_ble_eq_true rfl) ?_
  intro p e s m below meth c ls X hr hlk hnm hsz hW hl
  have hl : lv_has ls 6 [(0, .long (lI (v))), (2, .long (lI (lo))), (4, .long (lI (hi)))] := hl
  refine lv_lload_n X.1 X.2.1 dX10_isWithin_0 rfl (lv_at hl 1 rfl) ?_
  refine lv_lload_n X.1 X.2.1 dX10_isWithin_1 rfl (lv_at hl 0 rfl) ?_
  refine x_lcmp_gt (tgt := 17) X hlo hv dX10_isWithin_2 dX10_isWithin_3 (by decide) (fun b_2 => ?_) (fun b_2 => ?_)
  · refine x_iconst X dX10_isWithin_17 ?_
    exact x_zret X hr hlk (by decide) hW (⟨by congr 1; repeat (first | rfl | omega | split), rfl⟩) dX10_isWithin_18
  · refine lv_lload_n X.1 X.2.1 dX10_isWithin_6 rfl (lv_at hl 0 rfl) ?_
    refine lv_lload X.1 X.2.1 dX10_isWithin_7 (lv_at hl 2 rfl) ?_
    refine x_lcmp_gt (tgt := 17) X hv hhi dX10_isWithin_9 dX10_isWithin_10 (by decide) (fun b_9 => ?_) (fun b_9 => ?_)
    · refine x_iconst X dX10_isWithin_17 ?_
      exact x_zret X hr hlk (by decide) hW (⟨by congr 1; repeat (first | rfl | omega | split), rfl⟩) dX10_isWithin_18
    · refine x_iconst X dX10_isWithin_13 ?_
      refine lv_goto (tgt := 18) X.1 X.2.1 dX10_isWithin_14 (by decide) ?_
      exact x_zret X hr hlk (by decide) hW (⟨by congr 1; repeat (first | rfl | omega | split), rfl⟩) dX10_isWithin_18

theorem tm_up {p : Nat → Int32} {u v k : Nat} (hp : ∀ j, j < 6 → p j = iI ((if j < k then dg u j else dg v j : Nat) : Int)) (hk : k < 6) : ∀ j, j < 6 → upd p k (iI ((dg u k : Nat) : Int)) j = iI ((if j < k + 1 then dg u j else dg v j : Nat) : Int) := by
  intro j hj
  by_cases h : j = k
  · subst h
    rw [pk_us, if_pos (by omega)]
  · rw [pk_un h, hp j hj]
    by_cases h2 : j < k
    · rw [if_pos h2, if_pos (by omega)]
    · rw [if_neg h2, if_neg (by omega)]

set_option maxHeartbeats 4000000 in
set_option maxRecDepth 100000 in
/-- times: the value grows by the factor -/
theorem c_X5_times (l : Launch) (E : wE) (A : Nat → Nat) (n sz : Nat) (g : Nat → va_E) (i v f : Nat) (hi : i + 1 < n) (hN : NatV E A g i v) (hf : f ≤ 2147483648) (hvf : v * f < 10 ^ 54) : Met l yX5_times wsX5_times ({ frames := 1, cells := 0, slots := 0, locals := 30 } : Room) (va_Pc [.ref (A (i)), .long (lI ((f : Int)))] (wPre E A n sz g)) (va_Qv (fun g' => NatV E A g' i (v * f) ∧ ∀ j, j ≠ i + 1 → g' j = g j) (wAt E A n) (wF A n sz)) 0 0 (wF A n sz) := by
  refine x_met (cc := cX5_times) (maxL := 6) (ret := none) [.ref (A (i)), .long (lI ((f : Int)))] (by decide) rfl (Nat.le_of_ble_eq_true rfl) ?_
  intro p e s m below meth c ls X hr hlk hnm hsz hW hl
  have hl : lv_has ls 6 [(0, .ref (A (i))), (1, .long (lI ((f : Int))))] := hl
  have lk_0 : ∀ w ∈ wsX50, w ∈ wsX5_times := by decide +kernel
  have lk_1 : Cond.fieldLink RX5 9 (TX5 0).1 (TX5 0).2.1 (TX5 0).2.2.1 ∈ wsX5_times := by decide +kernel
  have lk_2 : Cond.constantLong RX5 19 (1000000000) ∈ wsX5_times := by decide +kernel
  obtain ⟨hlt, h0, pa, h1, hp⟩ := hN
  refine x_lconst X 0 (by decide) dX5_times_0 ?_
  refine x_setl (((cy 0 v f 0 : Nat) : Int)) (by rw [cy_0]; rfl) ?_
  refine lv_lstore_n (lv' := [(3, .long (lI (((cy 0 v f 0 : Nat) : Int)))), (0, .ref (A (i))), (1, .long (lI ((f : Int))))]) X.1 X.2.1 dX5_times_1 rfl hl (by decide) rfl (fun ls hl => ?_)
  refine x_iconst X dX5_times_2 ?_
  refine lv_istore (lv' := [(5, .int (iI (0))), (3, .long (lI (((cy 0 v f 0 : Nat) : Int)))), (0, .ref (A (i))), (1, .long (lI ((f : Int))))]) X.1 X.2.1 dX5_times_3 hl (by decide) rfl (fun ls hl => ?_)
  have loop_5 : ∀ (fuel : Nat) (k : Nat) (pa : Nat → Int32) (gw : Nat → va_E) (H : Heap) (locs : List Loc) (ls : Array Slot), (6 - k) < fuel → (k ≤ 6) → (gw i = .inr (5, [.ref (A (i + 1))])) → (gw (i + 1) = aI E 6 pa) → (∀ j, j < 6 → pa j = iI ((if j < k then dg (v * f) j else dg v j : Nat) : Int)) → (∀ j, j ≠ i + 1 → gw j = g j) → wH E (wF A n sz) A n s gw H locs → lv_has ls 6 [(0, .ref (A (i))), (1, .long (lI ((f : Int)))), (3, .long (lI (((cy 0 v f k : Nat) : Int)))), (5, .int (iI ((k : Int))))] → W p l e ({ frames := 1, cells := 0, slots := 0, locals := 30 } : Room) s m [.ref (A (i)), .long (lI ((f : Int)))].toArray below meth c H locs 0 0 (MQ below (va_Qv (fun g' => NatV E A g' i (v * f) ∧ ∀ j, j ≠ i + 1 → g' j = g j) (wAt E A n) (wF A n sz)) [.ref (A (i)), .long (lI ((f : Int)))].toArray s 0 0 (wF A n sz)) (F0 m 5 ls []) := by
    intro fuel
    induction fuel with
    | zero => intro k pa gw H locs ls hm; exact absurd hm (Nat.not_lt_zero _)
    | succ fuel ih_5 =>
      intro k pa gw H locs ls hm hk h0 h1 hp hfr hW hl
      refine lv_iload X.1 X.2.1 dX5_times_5 (lv_at hl 3 rfl) ?_
      refine x_bipush X (by decide) dX5_times_7 ?_
      refine x_icmp_ge (tgt := 50) X ⟨by omega, by omega⟩ ⟨by decide, by decide⟩ dX5_times_9 (by decide) (fun b_9 => ?_) (fun b_9 => ?_)
      · exact x_vret X hr hlk hW (⟨⟨hvf, h0, pa, h1, fun j hj => by rw [hp j hj, if_pos (by omega)]⟩, hfr⟩) dX5_times_50
      · have hk9 : k < 6 := by omega
        have hT := cyT_le 0 v f k
        have hs := cy_step 0 v f k
        have hd0 : dg 0 k = 0 := by unfold dg; rw [Nat.zero_div]
        refine lv_lload_n X.1 X.2.1 dX5_times_12 rfl (lv_at hl 2 rfl) ?_
        refine lv_aload_n X.1 X.2.1 dX5_times_13 rfl (lv_at hl 0 rfl) ?_
        refine x_get (C := RX5) (T := TX5) (N := 1) X hW (by omega) h0 rfl lk_0 0 (by decide) lk_1 rfl dX5_times_14 ?_
        refine lv_iload X.1 X.2.1 dX5_times_17 (lv_at hl 3 rfl) ?_
        refine x_iald X hW (by omega) h1 (v := iI (((dg v k : Nat) : Int))) k (by omega) (by omega) (by decide) (by rw [hp k hk9, if_neg (by omega)]) dX5_times_19 ?_
        refine x_i2l X ⟨by have := dg_lt v k; omega, by have := dg_lt v k; omega⟩ dX5_times_20 ?_
        refine lv_lload_n X.1 X.2.1 dX5_times_21 rfl (lv_at hl 1 rfl) ?_
        refine x_lmul X dX5_times_22 ?_
        refine x_ladd X dX5_times_23 ?_
        refine x_setl (((cyT 0 v f k : Nat) : Int)) (by rw [← hs, hd0]; push_cast; omega) ?_
        refine lv_lstore_n (lv' := [(3, .long (lI (((cyT 0 v f k : Nat) : Int)))), (0, .ref (A (i))), (1, .long (lI ((f : Int)))), (5, .int (iI ((k : Int))))]) X.1 X.2.1 dX5_times_24 rfl hl (by decide) rfl (fun ls hl => ?_)
        refine lv_aload_n X.1 X.2.1 dX5_times_25 rfl (lv_at hl 1 rfl) ?_
        refine x_get (C := RX5) (T := TX5) (N := 1) X hW (by omega) h0 rfl lk_0 0 (by decide) lk_1 rfl dX5_times_26 ?_
        refine lv_iload X.1 X.2.1 dX5_times_29 (lv_at hl 3 rfl) ?_
        refine lv_lload_n X.1 X.2.1 dX5_times_31 rfl (lv_at hl 0 rfl) ?_
        refine x_ldc2 X (1000000000) (by decide) lk_2 dX5_times_32 ?_
        refine x_lrem X ⟨by omega, by omega⟩ ⟨by decide, by decide⟩ (by omega) (by decide) dX5_times_35 ?_
        refine x_setl (((dg (v * f) k : Nat) : Int)) (by rw [← Nat.zero_add (v * f), ← cy_dig]; omega) ?_
        refine x_l2i X dX5_times_36 ?_
        refine x_iast X hW (by omega) h1 k (by omega) (by omega) (by decide) dX5_times_37 (fun g_37 H locs hg_37 hW => ?_)
        have h0 : g_37 i = .inr (5, [.ref (A (i + 1))]) := by rw [hg_37, va_up_ne _ _ (by omega)]; exact h0
        have h1 : g_37 (i + 1) = aI E 6 (upd pa k (iI (((dg (v * f) k : Nat) : Int)))) := by rw [hg_37, va_up_self]
        refine lv_lload_n X.1 X.2.1 dX5_times_38 rfl (lv_at hl 0 rfl) ?_
        refine x_ldc2 X (1000000000) (by decide) lk_2 dX5_times_39 ?_
        refine x_ldiv X ⟨by omega, by omega⟩ ⟨by decide, by decide⟩ (by omega) (by decide) dX5_times_42 ?_
        refine x_setl (((cy 0 v f (k + 1) : Nat) : Int)) (by rw [← cy_next]; omega) ?_
        refine lv_lstore_n (lv' := [(3, .long (lI (((cy 0 v f (k + 1) : Nat) : Int)))), (0, .ref (A (i))), (1, .long (lI ((f : Int)))), (5, .int (iI ((k : Int))))]) X.1 X.2.1 dX5_times_43 rfl hl (by decide) rfl (fun ls hl => ?_)
        refine lv_iinc (v := iI (((k + 1 : Nat) : Int))) (lv' := [(5, .int (iI (((k + 1 : Nat) : Int)))), (3, .long (lI (((cy 0 v f (k + 1) : Nat) : Int)))), (0, .ref (A (i))), (1, .long (lI ((f : Int))))]) X.1 X.2.1 dX5_times_44 hl (k := 3) rfl (by rw [show (Int32.ofInt (1)) = iI (1) from rfl, iI_add]; rfl) (by decide) rfl (fun ls hl => ?_)
        refine lv_goto (tgt := 5) X.1 X.2.1 dX5_times_47 (by decide) ?_
        exact ih_5 (k + 1) _ g_37 _ _ _ (by omega) (by omega) h0 h1 (tm_up hp hk9) (fun j hj => by rw [hg_37, va_up_ne _ _ hj]; exact hfr j hj) hW (lv_sub hl [2, 3, 1, 0] rfl)
  exact loop_5 _ 0 pa g _ _ _ (Nat.lt_succ_self _) (by omega) h0 h1 (fun j hj => by rw [if_neg (by omega)]; exact hp j hj) (fun _ _ => rfl) hW (lv_sub hl [2, 3, 1, 0] rfl)

set_option maxHeartbeats 4000000 in
set_option maxRecDepth 100000 in
/-- addTimes -/
theorem c_X5_addTimes (l : Launch) (E : wE) (A : Nat → Nat) (n sz : Nat) (g : Nat → va_E) (i j0 u w f : Nat) (hi : i + 1 < n) (hj : j0 + 1 < n) (hij : i ≠ j0 + 1) (hji : j0 ≠ i + 1) (hne : i ≠ j0) (hN : NatV E A g i u) (hM : NatV E A g j0 w) (hf : f ≤ 2147483648) (hvf : u + w * f < 10 ^ 54) : Met l yX5_addTimes wsX5_addTimes ({ frames := 1, cells := 0, slots := 0, locals := 30 } : Room) (va_Pc [.ref (A (i)), .ref (A (j0)), .long (lI ((f : Int)))] (wPre E A n sz g)) (va_Qv (fun g' => NatV E A g' i (u + w * f) ∧ ∀ j, j ≠ i + 1 → g' j = g j) (wAt E A n) (wF A n sz)) 0 0 (wF A n sz) := by
  refine x_met (cc := cX5_addTimes) (maxL := 7) (ret := none) [.ref (A (i)), .ref (A (j0)), .long (lI ((f : Int)))] (by decide) rfl (Nat.le_of_ble_eq_true rfl) ?_
  intro p e s m below meth c ls X hr hlk hnm hsz hW hl
  have hl : lv_has ls 7 [(0, .ref (A (i))), (1, .ref (A (j0))), (2, .long (lI ((f : Int))))] := hl
  have lk_0 : ∀ w ∈ wsX50, w ∈ wsX5_addTimes := by decide +kernel
  have lk_1 : Cond.fieldLink RX5 9 (TX5 0).1 (TX5 0).2.1 (TX5 0).2.2.1 ∈ wsX5_addTimes := by decide +kernel
  have lk_2 : Cond.constantLong RX5 19 (1000000000) ∈ wsX5_addTimes := by decide +kernel
  obtain ⟨hlt, h0, pa, h1, hp⟩ := hN
  obtain ⟨hlu, k0, qa, k1, hq⟩ := hM
  refine x_lconst X 0 (by decide) dX5_addTimes_0 ?_
  refine x_setl (((cy u w f 0 : Nat) : Int)) (by rw [cy_0]; rfl) ?_
  refine lv_lstore (lv' := [(4, .long (lI (((cy u w f 0 : Nat) : Int)))), (0, .ref (A (i))), (1, .ref (A (j0))), (2, .long (lI ((f : Int))))]) X.1 X.2.1 dX5_addTimes_1 hl (by decide) rfl (fun ls hl => ?_)
  refine x_iconst X dX5_addTimes_3 ?_
  refine lv_istore (lv' := [(6, .int (iI (0))), (4, .long (lI (((cy u w f 0 : Nat) : Int)))), (0, .ref (A (i))), (1, .ref (A (j0))), (2, .long (lI ((f : Int))))]) X.1 X.2.1 dX5_addTimes_4 hl (by decide) rfl (fun ls hl => ?_)
  have loop_6 : ∀ (fuel : Nat) (k : Nat) (pa : Nat → Int32) (gw : Nat → va_E) (H : Heap) (locs : List Loc) (ls : Array Slot), (6 - k) < fuel → (k ≤ 6) → (gw (i + 1) = aI E 6 pa) → (∀ j, j < 6 → pa j = iI ((if j < k then dg (u + w * f) j else dg u j : Nat) : Int)) → (∀ j, j ≠ i + 1 → gw j = g j) → wH E (wF A n sz) A n s gw H locs → lv_has ls 7 [(0, .ref (A (i))), (1, .ref (A (j0))), (2, .long (lI ((f : Int)))), (4, .long (lI (((cy u w f k : Nat) : Int)))), (6, .int (iI ((k : Int))))] → W p l e ({ frames := 1, cells := 0, slots := 0, locals := 30 } : Room) s m [.ref (A (i)), .ref (A (j0)), .long (lI ((f : Int)))].toArray below meth c H locs 0 0 (MQ below (va_Qv (fun g' => NatV E A g' i (u + w * f) ∧ ∀ j, j ≠ i + 1 → g' j = g j) (wAt E A n) (wF A n sz)) [.ref (A (i)), .ref (A (j0)), .long (lI ((f : Int)))].toArray s 0 0 (wF A n sz)) (F0 m 6 ls []) := by
    intro fuel
    induction fuel with
    | zero => intro k pa gw H locs ls hm; exact absurd hm (Nat.not_lt_zero _)
    | succ fuel ih_6 =>
      intro k pa gw H locs ls hm hk h1 hp hfr hW hl
      have h0 : gw i = .inr (5, [.ref (A (i + 1))]) := (hfr _ (by omega)).trans h0
      have k0 : gw j0 = .inr (5, [.ref (A (j0 + 1))]) := (hfr _ (by omega)).trans k0
      have k1 : gw (j0 + 1) = aI E 6 qa := (hfr _ (by omega)).trans k1
      refine lv_iload X.1 X.2.1 dX5_addTimes_6 (lv_at hl 4 rfl) ?_
      refine x_bipush X (by decide) dX5_addTimes_8 ?_
      refine x_icmp_ge (tgt := 65) X ⟨by omega, by omega⟩ ⟨by decide, by decide⟩ dX5_addTimes_10 (by decide) (fun b_10 => ?_) (fun b_10 => ?_)
      · exact x_vret X hr hlk hW (⟨⟨hvf, h0, pa, h1, fun j hj => by rw [hp j hj, if_pos (by omega)]⟩, hfr⟩) dX5_addTimes_65
      · have hk9 : k < 6 := by omega
        have hT := cyT_le u w f k
        have hs := cy_step u w f k
        refine lv_lload X.1 X.2.1 dX5_addTimes_13 (lv_at hl 3 rfl) ?_
        refine lv_aload_n X.1 X.2.1 dX5_addTimes_15 rfl (lv_at hl 0 rfl) ?_
        refine x_get (C := RX5) (T := TX5) (N := 1) X hW (by omega) h0 rfl lk_0 0 (by decide) lk_1 rfl dX5_addTimes_16 ?_
        refine lv_iload X.1 X.2.1 dX5_addTimes_19 (lv_at hl 4 rfl) ?_
        refine x_iald X hW (by omega) h1 (v := iI (((dg u k : Nat) : Int))) k (by omega) (by omega) (by decide) (by rw [hp k hk9, if_neg (by omega)]) dX5_addTimes_21 ?_
        refine x_i2l X ⟨by have := dg_lt u k; omega, by have := dg_lt u k; omega⟩ dX5_addTimes_22 ?_
        refine lv_aload_n X.1 X.2.1 dX5_addTimes_23 rfl (lv_at hl 1 rfl) ?_
        refine x_get (C := RX5) (T := TX5) (N := 1) X hW (by omega) k0 rfl lk_0 0 (by decide) lk_1 rfl dX5_addTimes_24 ?_
        refine lv_iload X.1 X.2.1 dX5_addTimes_27 (lv_at hl 4 rfl) ?_
        refine x_iald X hW (by omega) k1 (v := iI (((dg w k : Nat) : Int))) k (by omega) (by omega) (by decide) (hq k hk9) dX5_addTimes_29 ?_
        refine x_i2l X ⟨by have := dg_lt w k; omega, by have := dg_lt w k; omega⟩ dX5_addTimes_30 ?_
        refine lv_lload_n X.1 X.2.1 dX5_addTimes_31 rfl (lv_at hl 2 rfl) ?_
        refine x_lmul X dX5_addTimes_32 ?_
        refine x_ladd X dX5_addTimes_33 ?_
        refine x_ladd X dX5_addTimes_34 ?_
        refine x_setl (((cyT u w f k : Nat) : Int)) (by rw [← hs]; push_cast; omega) ?_
        refine lv_lstore (lv' := [(4, .long (lI (((cyT u w f k : Nat) : Int)))), (0, .ref (A (i))), (1, .ref (A (j0))), (2, .long (lI ((f : Int)))), (6, .int (iI ((k : Int))))]) X.1 X.2.1 dX5_addTimes_35 hl (by decide) rfl (fun ls hl => ?_)
        refine lv_aload_n X.1 X.2.1 dX5_addTimes_37 rfl (lv_at hl 1 rfl) ?_
        refine x_get (C := RX5) (T := TX5) (N := 1) X hW (by omega) h0 rfl lk_0 0 (by decide) lk_1 rfl dX5_addTimes_38 ?_
        refine lv_iload X.1 X.2.1 dX5_addTimes_41 (lv_at hl 4 rfl) ?_
        refine lv_lload X.1 X.2.1 dX5_addTimes_43 (lv_at hl 0 rfl) ?_
        refine x_ldc2 X (1000000000) (by decide) lk_2 dX5_addTimes_45 ?_
        refine x_lrem X ⟨by omega, by omega⟩ ⟨by decide, by decide⟩ (by omega) (by decide) dX5_addTimes_48 ?_
        refine x_setl (((dg (u + w * f) k : Nat) : Int)) (by rw [← cy_dig]; omega) ?_
        refine x_l2i X dX5_addTimes_49 ?_
        refine x_iast X hW (by omega) h1 k (by omega) (by omega) (by decide) dX5_addTimes_50 (fun g_50 H locs hg_50 hW => ?_)
        have h0 : g_50 i = .inr (5, [.ref (A (i + 1))]) := by rw [hg_50, va_up_ne _ _ (by omega)]; exact h0
        have k0 : g_50 j0 = .inr (5, [.ref (A (j0 + 1))]) := by rw [hg_50, va_up_ne _ _ (by omega)]; exact k0
        have k1 : g_50 (j0 + 1) = aI E 6 qa := by rw [hg_50, va_up_ne _ _ (by omega)]; exact k1
        have h1 : g_50 (i + 1) = aI E 6 (upd pa k (iI (((dg (u + w * f) k : Nat) : Int)))) := by rw [hg_50, va_up_self]
        refine lv_lload X.1 X.2.1 dX5_addTimes_51 (lv_at hl 0 rfl) ?_
        refine x_ldc2 X (1000000000) (by decide) lk_2 dX5_addTimes_53 ?_
        refine x_ldiv X ⟨by omega, by omega⟩ ⟨by decide, by decide⟩ (by omega) (by decide) dX5_addTimes_56 ?_
        refine x_setl (((cy u w f (k + 1) : Nat) : Int)) (by rw [← cy_next]; omega) ?_
        refine lv_lstore (lv' := [(4, .long (lI (((cy u w f (k + 1) : Nat) : Int)))), (0, .ref (A (i))), (1, .ref (A (j0))), (2, .long (lI ((f : Int)))), (6, .int (iI ((k : Int))))]) X.1 X.2.1 dX5_addTimes_57 hl (by decide) rfl (fun ls hl => ?_)
        refine lv_iinc (v := iI (((k + 1 : Nat) : Int))) (lv' := [(6, .int (iI (((k + 1 : Nat) : Int)))), (4, .long (lI (((cy u w f (k + 1) : Nat) : Int)))), (0, .ref (A (i))), (1, .ref (A (j0))), (2, .long (lI ((f : Int))))]) X.1 X.2.1 dX5_addTimes_59 hl (k := 4) rfl (by rw [show (Int32.ofInt (1)) = iI (1) from rfl, iI_add]; rfl) (by decide) rfl (fun ls hl => ?_)
        refine lv_goto (tgt := 6) X.1 X.2.1 dX5_addTimes_62 (by decide) ?_
        exact ih_6 (k + 1) _ g_50 _ _ _ (by omega) (by omega) h1 (tm_up hp hk9) (fun j hj => by rw [hg_50, va_up_ne _ _ hj]; exact hfr j hj) hW (lv_sub hl [2, 3, 4, 1, 0] rfl)
  exact loop_6 _ 0 pa g _ _ _ (Nat.lt_succ_self _) (by omega) h1 (fun j hj => by rw [if_neg (by omega)]; exact hp j hj) (fun _ _ => rfl) hW (lv_sub hl [2, 3, 4, 1, 0] rfl)

def dvR (v d k : Nat) : Nat := v / 1000000000 ^ k % d
theorem dv_top {v d : Nat} (hv : v < 10 ^ 54) : dvR v d 6 = 0 := by
  unfold dvR
  rw [Nat.div_eq_of_lt (by omega), Nat.zero_mod]
theorem dv_split (v k : Nat) : v / 1000000000 ^ k = v / 1000000000 ^ (k + 1) * 1000000000 + dg v k := by
  unfold dg
  rw [Nat.pow_succ, ← Nat.div_div_eq_div_mul]
  have := Nat.div_add_mod (v / 1000000000 ^ k) 1000000000
  omega
theorem dv_next {v d k : Nat} : (dvR v d (k + 1) * 1000000000 + dg v k) % d = dvR v d k := by
  unfold dvR
  rw [dv_split v k, Nat.add_mod, Nat.mod_mul_mod, ← Nat.add_mod]
theorem dv_dig {v d k : Nat} (hd : 0 < d) : (dvR v d (k + 1) * 1000000000 + dg v k) / d = dg (v / d) k := by
  have h1 : v / d / 1000000000 ^ k = v / 1000000000 ^ k / d := by rw [Nat.div_div_eq_div_mul, Nat.div_div_eq_div_mul, Nat.mul_comm]
  have hr : dvR v d (k + 1) < d := Nat.mod_lt _ hd
  have hlt : dvR v d (k + 1) * 1000000000 + dg v k < d * 1000000000 := by
    have := dg_lt v k
    have : (dvR v d (k + 1) + 1) * 1000000000 ≤ d * 1000000000 := Nat.mul_le_mul_right _ hr
    omega
  have h2 : (dvR v d (k + 1) * 1000000000 + dg v k) / d < 1000000000 := Nat.div_lt_of_lt_mul hlt
  show _ = v / d / 1000000000 ^ k % 1000000000
  rw [h1, dv_split v k]
  have e : v / 1000000000 ^ (k + 1) * 1000000000 + dg v k = (dvR v d (k + 1) * 1000000000 + dg v k) + d * (v / 1000000000 ^ (k + 1) / d * 1000000000) := by
    have := Nat.div_add_mod (v / 1000000000 ^ (k + 1)) d
    unfold dvR
    conv => lhs; rw [← this]
    rw [Nat.add_mul, Nat.mul_assoc]; omega
  rw [e, Nat.add_mul_div_left _ _ hd, Nat.add_mul_mod_self_right]
  exact (Nat.mod_eq_of_lt h2).symm
theorem dv_up {pa : Nat → Int32} {u v k : Nat} (hp : ∀ j, j < 6 → pa j = iI ((if j < k + 1 then dg v j else dg u j : Nat) : Int)) (hk : k < 6) : ∀ j, j < 6 → upd pa k (iI ((dg u k : Nat) : Int)) j = iI ((if j < k then dg v j else dg u j : Nat) : Int) := by
  intro j hj
  by_cases h : j = k
  · subst h
    rw [pk_us, if_neg (by omega)]
  · rw [pk_un h, hp j hj]
    by_cases h2 : j < k
    · rw [if_pos h2, if_pos (by omega)]
    · rw [if_neg h2, if_neg (by omega)]

set_option maxHeartbeats 4000000 in
set_option maxRecDepth 100000 in
/-- divide -/
theorem c_X5_divide (l : Launch) (E : wE) (A : Nat → Nat) (n sz : Nat) (g : Nat → va_E) (i v d : Nat) (hi : i + 1 < n) (hN : NatV E A g i v) (hd : 0 < d) (hd2 : d < 2147483648) : Met l yX5_divide wsX5_divide ({ frames := 1, cells := 0, slots := 0, locals := 30 } : Room) (va_Pc [.ref (A (i)), .int (iI ((d : Int)))] (wPre E A n sz g)) (va_Qv (fun g' => NatV E A g' i (v / d) ∧ ∀ j, j ≠ i + 1 → g' j = g j) (wAt E A n) (wF A n sz)) 0 0 (wF A n sz) := by
  refine x_met (cc := cX5_divide) (maxL := 5) (ret := none) [.ref (A (i)), .int (iI ((d : Int)))] (by decide) rfl (Nat.le_of_ble_eq_true rfl) ?_
  intro p e s m below meth c ls X hr hlk hnm hsz hW hl
  have hl : lv_has ls 5 [(0, .ref (A (i))), (1, .int (iI ((d : Int))))] := hl
  have lk_0 : Cond.constantLong RX5 19 (1000000000) ∈ wsX5_divide := by decide +kernel
  have lk_1 : ∀ w ∈ wsX50, w ∈ wsX5_divide := by decide +kernel
  have lk_2 : Cond.fieldLink RX5 9 (TX5 0).1 (TX5 0).2.1 (TX5 0).2.2.1 ∈ wsX5_divide := by decide +kernel
  obtain ⟨hlt, h0, pa, h1, hp⟩ := hN
  refine lv_iload_n X.1 X.2.1 dX5_divide_0 rfl (lv_at hl 1 rfl) ?_
  refine x_iconst X dX5_divide_1 ?_
  refine x_icmp_ge (tgt := 6) X ⟨by omega, by omega⟩ ⟨by decide, by decide⟩ dX5_divide_2 (by decide) (fun b_2 => ?_) (fun b_2 => ?_)
  · refine x_lconst X 0 (by decide) dX5_divide_6 ?_
    refine x_setl (((dvR v d 6 : Nat) : Int)) (by rw [dv_top hlt]; rfl) ?_
    refine lv_lstore_n (lv' := [(2, .long (lI (((dvR v d 6 : Nat) : Int)))), (0, .ref (A (i))), (1, .int (iI ((d : Int))))]) X.1 X.2.1 dX5_divide_7 rfl hl (by decide) rfl (fun ls hl => ?_)
    refine x_iconst X dX5_divide_8 ?_
    refine x_seti (((6 : Nat) : Int) - 1) rfl ?_
    refine lv_istore (lv' := [(4, .int (iI (((6 : Nat) : Int) - 1))), (2, .long (lI (((dvR v d 6 : Nat) : Int)))), (0, .ref (A (i))), (1, .int (iI ((d : Int))))]) X.1 X.2.1 dX5_divide_9 hl (by decide) rfl (fun ls hl => ?_)
    have loop_11 : ∀ (fuel : Nat) (k : Nat) (pa : Nat → Int32) (gw : Nat → va_E) (H : Heap) (locs : List Loc) (ls : Array Slot), (k) < fuel → (k ≤ 6) → (gw i = .inr (5, [.ref (A (i + 1))])) → (gw (i + 1) = aI E 6 pa) → (∀ j, j < 6 → pa j = iI ((if j < k then dg v j else dg (v / d) j : Nat) : Int)) → (∀ j, j ≠ i + 1 → gw j = g j) → wH E (wF A n sz) A n s gw H locs → lv_has ls 5 [(0, .ref (A (i))), (1, .int (iI ((d : Int)))), (2, .long (lI (((dvR v d k : Nat) : Int)))), (4, .int (iI ((k : Int) - 1)))] → W p l e ({ frames := 1, cells := 0, slots := 0, locals := 30 } : Room) s m [.ref (A (i)), .int (iI ((d : Int)))].toArray below meth c H locs 0 0 (MQ below (va_Qv (fun g' => NatV E A g' i (v / d) ∧ ∀ j, j ≠ i + 1 → g' j = g j) (wAt E A n) (wF A n sz)) [.ref (A (i)), .int (iI ((d : Int)))].toArray s 0 0 (wF A n sz)) (F0 m 11 ls []) := by
      intro fuel
      induction fuel with
      | zero => intro k pa gw H locs ls hm; exact absurd hm (Nat.not_lt_zero _)
      | succ fuel ih_11 =>
        intro k pa gw H locs ls hm hk h0 h1 hp hfr hW hl
        refine lv_iload X.1 X.2.1 dX5_divide_11 (lv_at hl 3 rfl) ?_
        refine x_if_lt (tgt := 54) X ⟨by omega, by omega⟩ dX5_divide_13 (by decide) (fun b_13 => ?_) (fun b_13 => ?_)
        · obtain rfl : k = 0 := by omega
          exact x_vret X hr hlk hW (⟨⟨Nat.lt_of_le_of_lt (Nat.div_le_self _ _) hlt, h0, pa, h1, fun j hj => by rw [hp j hj, if_neg (by omega)]⟩, hfr⟩) dX5_divide_54
        · obtain ⟨k1, hk1⟩ : ∃ k1, k = k1 + 1 := ⟨k - 1, by omega⟩
          have hrd : dvR v d (k1 + 1) < d := Nat.mod_lt _ hd
          have hgd := dg_lt v k1
          have hX : dvR v d (k1 + 1) * 1000000000 + dg v k1 < 9223372036854775808 := by omega
          refine lv_lload_n X.1 X.2.1 dX5_divide_16 rfl (lv_at hl 2 rfl) ?_
          refine x_ldc2 X (1000000000) (by decide) lk_0 dX5_divide_17 ?_
          refine x_lmul X dX5_divide_20 ?_
          refine lv_aload_n X.1 X.2.1 dX5_divide_21 rfl (lv_at hl 0 rfl) ?_
          refine x_get (C := RX5) (T := TX5) (N := 1) X hW (by omega) h0 rfl lk_1 0 (by decide) lk_2 rfl dX5_divide_22 ?_
          refine lv_iload X.1 X.2.1 dX5_divide_25 (lv_at hl 3 rfl) ?_
          refine x_iald X hW (by omega) h1 (v := iI (((dg v k1 : Nat) : Int))) k1 (by omega) (by omega) (by decide) (by rw [hp k1 (by omega), if_pos (by omega)]) dX5_divide_27 ?_
          refine x_i2l X ⟨by omega, by omega⟩ dX5_divide_28 ?_
          refine x_ladd X dX5_divide_29 ?_
          refine x_setl (((dvR v d (k1 + 1) * 1000000000 + dg v k1 : Nat) : Int)) (by rw [hk1]; omega) ?_
          refine lv_lstore_n (lv' := [(2, .long (lI (((dvR v d (k1 + 1) * 1000000000 + dg v k1 : Nat) : Int)))), (0, .ref (A (i))), (1, .int (iI ((d : Int)))), (4, .int (iI ((k : Int) - 1)))]) X.1 X.2.1 dX5_divide_30 rfl hl (by decide) rfl (fun ls hl => ?_)
          refine lv_aload_n X.1 X.2.1 dX5_divide_31 rfl (lv_at hl 1 rfl) ?_
          refine x_get (C := RX5) (T := TX5) (N := 1) X hW (by omega) h0 rfl lk_1 0 (by decide) lk_2 rfl dX5_divide_32 ?_
          refine lv_iload X.1 X.2.1 dX5_divide_35 (lv_at hl 3 rfl) ?_
          refine lv_lload_n X.1 X.2.1 dX5_divide_37 rfl (lv_at hl 0 rfl) ?_
          refine lv_iload_n X.1 X.2.1 dX5_divide_38 rfl (lv_at hl 2 rfl) ?_
          refine x_i2l X ⟨by omega, by omega⟩ dX5_divide_39 ?_
          refine x_ldiv X ⟨by omega, by omega⟩ ⟨by omega, by omega⟩ (by omega) (by omega) dX5_divide_40 ?_
          refine x_setl (((dg (v / d) k1 : Nat) : Int)) (by rw [← dv_dig hd]; omega) ?_
          refine x_l2i X dX5_divide_41 ?_
          refine x_iast X hW (by omega) h1 k1 (by omega) (by omega) (by decide) dX5_divide_42 (fun g_42 H locs hg_42 hW => ?_)
          have h0 : g_42 i = .inr (5, [.ref (A (i + 1))]) := by rw [hg_42, va_up_ne _ _ (by omega)]; exact h0
          have h1 : g_42 (i + 1) = aI E 6 (upd pa k1 (iI (((dg (v / d) k1 : Nat) : Int)))) := by rw [hg_42, va_up_self]
          refine lv_lload_n X.1 X.2.1 dX5_divide_43 rfl (lv_at hl 0 rfl) ?_
          refine lv_iload_n X.1 X.2.1 dX5_divide_44 rfl (lv_at hl 2 rfl) ?_
          refine x_i2l X ⟨by omega, by omega⟩ dX5_divide_45 ?_
          refine x_lrem X ⟨by omega, by omega⟩ ⟨by omega, by omega⟩ (by omega) (by omega) dX5_divide_46 ?_
          refine x_setl (((dvR v d k1 : Nat) : Int)) (by rw [← dv_next (v := v) (d := d) (k := k1)]; omega) ?_
          refine lv_lstore_n (lv' := [(2, .long (lI (((dvR v d k1 : Nat) : Int)))), (0, .ref (A (i))), (1, .int (iI ((d : Int)))), (4, .int (iI ((k : Int) - 1)))]) X.1 X.2.1 dX5_divide_47 rfl hl (by decide) rfl (fun ls hl => ?_)
          refine lv_iinc (v := iI ((k1 : Int) - 1)) (lv' := [(4, .int (iI ((k1 : Int) - 1))), (2, .long (lI (((dvR v d k1 : Nat) : Int)))), (0, .ref (A (i))), (1, .int (iI ((d : Int))))]) X.1 X.2.1 dX5_divide_48 hl (k := 3) rfl (by rw [show (Int32.ofInt (-1)) = iI (-1) from rfl, iI_add]; congr 1; omega) (by decide) rfl (fun ls hl => ?_)
          refine lv_goto (tgt := 11) X.1 X.2.1 dX5_divide_51 (by decide) ?_
          exact ih_11 k1 _ g_42 _ _ _ (by omega) (by omega) h0 h1 (dv_up (by rw [← hk1]; exact hp) (by omega)) (fun j hj => by rw [hg_42, va_up_ne _ _ hj]; exact hfr j hj) hW (lv_sub hl [2, 3, 1, 0] rfl)
    exact loop_11 _ 6 pa g _ _ _ (Nat.lt_succ_self _) (by omega) h0 h1 (fun j hj => by rw [if_pos (by omega)]; exact hp j hj) (fun _ _ => rfl) hW (lv_sub hl [2, 3, 1, 0] rfl)
  · exact absurd b_2 (by omega)

set_option maxHeartbeats 4000000 in
set_option maxRecDepth 100000 in
/-- rest -/
theorem c_X5_rest (l : Launch) (E : wE) (A : Nat → Nat) (n sz : Nat) (g : Nat → va_E) (i v d : Nat) (hi : i + 1 < n) (hN : NatV E A g i v) (hd : 0 < d) (hd2 : d < 2147483648) : Met l yX5_rest wsX5_rest ({ frames := 1, cells := 0, slots := 0, locals := 30 } : Room) (va_Pc [.ref (A (i)), .int (iI ((d : Int)))] (wPre E A n sz g)) (va_Qi (fun r g' => r = iI ((v % d : Nat) : Int) ∧ g' = g) (wAt E A n) (wF A n sz)) 0 0 (wF A n sz) := by
  refine x_met (cc := cX5_rest) (maxL := 5) (ret := (some .int)) [.ref (A (i)), .int (iI ((d : Int)))] (by decide) rfl (Nat.le_of_ble_eq_true rfl) ?_
  intro p e s m below meth c ls X hr hlk hnm hsz hW hl
  have hl : lv_has ls 5 [(0, .ref (A (i))), (1, .int (iI ((d : Int))))] := hl
  have lk_0 : Cond.constantLong RX5 19 (1000000000) ∈ wsX5_rest := by decide +kernel
  have lk_1 : ∀ w ∈ wsX50, w ∈ wsX5_rest := by decide +kernel
  have lk_2 : Cond.fieldLink RX5 9 (TX5 0).1 (TX5 0).2.1 (TX5 0).2.2.1 ∈ wsX5_rest := by decide +kernel
  obtain ⟨hlt, h0, pa, h1, hp⟩ := hN
  refine lv_iload_n X.1 X.2.1 dX5_rest_0 rfl (lv_at hl 1 rfl) ?_
  refine x_iconst X dX5_rest_1 ?_
  refine x_icmp_ge (tgt := 7) X ⟨by omega, by omega⟩ ⟨by decide, by decide⟩ dX5_rest_2 (by decide) (fun b_2 => ?_) (fun b_2 => ?_)
  · refine x_lconst X 0 (by decide) dX5_rest_7 ?_
    refine x_setl (((dvR v d 6 : Nat) : Int)) (by rw [dv_top hlt]; rfl) ?_
    refine lv_lstore_n (lv' := [(2, .long (lI (((dvR v d 6 : Nat) : Int)))), (0, .ref (A (i))), (1, .int (iI ((d : Int))))]) X.1 X.2.1 dX5_rest_8 rfl hl (by decide) rfl (fun ls hl => ?_)
    refine x_iconst X dX5_rest_9 ?_
    refine x_seti (((6 : Nat) : Int) - 1) rfl ?_
    refine lv_istore (lv' := [(4, .int (iI (((6 : Nat) : Int) - 1))), (2, .long (lI (((dvR v d 6 : Nat) : Int)))), (0, .ref (A (i))), (1, .int (iI ((d : Int))))]) X.1 X.2.1 dX5_rest_10 hl (by decide) rfl (fun ls hl => ?_)
    have loop_12 : ∀ (fuel : Nat) (k : Nat) (gw : Nat → va_E) (H : Heap) (locs : List Loc) (ls : Array Slot), (k) < fuel → (k ≤ 6) → (gw = g) → wH E (wF A n sz) A n s gw H locs → lv_has ls 5 [(0, .ref (A (i))), (1, .int (iI ((d : Int)))), (2, .long (lI (((dvR v d k : Nat) : Int)))), (4, .int (iI ((k : Int) - 1)))] → W p l e ({ frames := 1, cells := 0, slots := 0, locals := 30 } : Room) s m [.ref (A (i)), .int (iI ((d : Int)))].toArray below meth c H locs 0 0 (MQ below (va_Qi (fun r g' => r = iI ((v % d : Nat) : Int) ∧ g' = g) (wAt E A n) (wF A n sz)) [.ref (A (i)), .int (iI ((d : Int)))].toArray s 0 0 (wF A n sz)) (F0 m 12 ls []) := by
      intro fuel
      induction fuel with
      | zero => intro k gw H locs ls hm; exact absurd hm (Nat.not_lt_zero _)
      | succ fuel ih_12 =>
        intro k gw H locs ls hm hk hgg hW hl
        have h0 : gw i = .inr (5, [.ref (A (i + 1))]) := by rw [hgg]; exact h0
        have h1 : gw (i + 1) = aI E 6 pa := by rw [hgg]; exact h1
        refine lv_iload X.1 X.2.1 dX5_rest_12 (lv_at hl 3 rfl) ?_
        refine x_if_lt (tgt := 41) X ⟨by omega, by omega⟩ dX5_rest_14 (by decide) (fun b_14 => ?_) (fun b_14 => ?_)
        · obtain rfl : k = 0 := by omega
          refine lv_lload_n X.1 X.2.1 dX5_rest_41 rfl (lv_at hl 2 rfl) ?_
          refine x_l2i X dX5_rest_42 ?_
          exact x_iret X hr hlk hW (⟨by unfold dvR; rw [Nat.pow_zero, Nat.div_one], hgg⟩) dX5_rest_43
        · obtain ⟨k1, hk1⟩ : ∃ k1, k = k1 + 1 := ⟨k - 1, by omega⟩
          have hrd : dvR v d (k1 + 1) < d := Nat.mod_lt _ hd
          have hgd := dg_lt v k1
          have hX : dvR v d (k1 + 1) * 1000000000 + dg v k1 < 9223372036854775808 := by omega
          refine lv_lload_n X.1 X.2.1 dX5_rest_17 rfl (lv_at hl 2 rfl) ?_
          refine x_ldc2 X (1000000000) (by decide) lk_0 dX5_rest_18 ?_
          refine x_lmul X dX5_rest_21 ?_
          refine lv_aload_n X.1 X.2.1 dX5_rest_22 rfl (lv_at hl 0 rfl) ?_
          refine x_get (C := RX5) (T := TX5) (N := 1) X hW (by omega) h0 rfl lk_1 0 (by decide) lk_2 rfl dX5_rest_23 ?_
          refine lv_iload X.1 X.2.1 dX5_rest_26 (lv_at hl 3 rfl) ?_
          refine x_iald X hW (by omega) h1 (v := iI (((dg v k1 : Nat) : Int))) k1 (by omega) (by omega) (by decide) (hp k1 (by omega)) dX5_rest_28 ?_
          refine x_i2l X ⟨by omega, by omega⟩ dX5_rest_29 ?_
          refine x_ladd X dX5_rest_30 ?_
          refine x_setl (((dvR v d (k1 + 1) * 1000000000 + dg v k1 : Nat) : Int)) (by rw [hk1]; omega) ?_
          refine lv_iload_n X.1 X.2.1 dX5_rest_31 rfl (lv_at hl 1 rfl) ?_
          refine x_i2l X ⟨by omega, by omega⟩ dX5_rest_32 ?_
          refine x_lrem X ⟨by omega, by omega⟩ ⟨by omega, by omega⟩ (by omega) (by omega) dX5_rest_33 ?_
          refine x_setl (((dvR v d k1 : Nat) : Int)) (by rw [← dv_next (v := v) (d := d) (k := k1)]; omega) ?_
          refine lv_lstore_n (lv' := [(2, .long (lI (((dvR v d k1 : Nat) : Int)))), (0, .ref (A (i))), (1, .int (iI ((d : Int)))), (4, .int (iI ((k : Int) - 1)))]) X.1 X.2.1 dX5_rest_34 rfl hl (by decide) rfl (fun ls hl => ?_)
          refine lv_iinc (v := iI ((k1 : Int) - 1)) (lv' := [(4, .int (iI ((k1 : Int) - 1))), (2, .long (lI (((dvR v d k1 : Nat) : Int)))), (0, .ref (A (i))), (1, .int (iI ((d : Int))))]) X.1 X.2.1 dX5_rest_35 hl (k := 3) rfl (by rw [show (Int32.ofInt (-1)) = iI (-1) from rfl, iI_add]; congr 1; omega) (by decide) rfl (fun ls hl => ?_)
          refine lv_goto (tgt := 12) X.1 X.2.1 dX5_rest_38 (by decide) ?_
          exact ih_12 k1 gw _ _ _ (by omega) (by omega) hgg hW (lv_sub hl [2, 3, 1, 0] rfl)
    exact loop_12 _ 6 g _ _ _ (Nat.lt_succ_self _) (by omega) rfl hW (lv_sub hl [2, 3, 1, 0] rfl)
  · exact absurd b_2 (by omega)

theorem ag_lt {u v k : Nat} (h : u / 1000000000 ^ (k + 1) = v / 1000000000 ^ (k + 1)) (hd : dg u k < dg v k) : u < v := by
  apply Decidable.byContradiction
  intro hc
  have h1 : v / 1000000000 ^ k ≤ u / 1000000000 ^ k := Nat.div_le_div_right (by omega)
  rw [dv_split u k, dv_split v k, h] at h1
  omega

theorem ag_cmp {u v k : Nat} (h : u / 1000000000 ^ (k + 1) = v / 1000000000 ^ (k + 1)) (hd : dg u k ≠ dg v k) : (if ((dg u k : Nat) : Int) < ((dg v k : Nat) : Int) then (-1 : Int) else if ((dg u k : Nat) : Int) = ((dg v k : Nat) : Int) then 0 else 1) = (if u < v then -1 else if u = v then 0 else 1) := by
  rcases Nat.lt_or_ge (dg u k) (dg v k) with h1 | h1
  · rw [if_pos (by omega), if_pos (ag_lt h h1)]
  · have := ag_lt h.symm (k := k) (u := v) (v := u) (by omega)
    rw [if_neg (by omega), if_neg (by omega), if_neg (by omega), if_neg (by omega)]

set_option maxHeartbeats 4000000 in
set_option maxRecDepth 100000 in
/-- against -/
theorem c_X5_against (l : Launch) (E : wE) (A : Nat → Nat) (n sz : Nat) (g : Nat → va_E) (i j0 u v : Nat) (hi : i + 1 < n) (hj : j0 + 1 < n) (hN : NatV E A g i u) (hM : NatV E A g j0 v) : Met l yX5_against wsX5_against ({ frames := 2, cells := 0, slots := 0, locals := 60 } : Room) (va_Pc [.ref (A (i)), .ref (A (j0))] (wPre E A n sz g)) (va_Qi (fun r g' => r = iI (if u < v then -1 else if u = v then 0 else 1) ∧ g' = g) (wAt E A n) (wF A n sz)) 0 0 (wF A n sz) := by
  refine x_met (cc := cX5_against) (maxL := 3) (ret := (some .int)) [.ref (A (i)), .ref (A (j0))] (by decide) rfl (Nat.le_of_ble_eq_true rfl) ?_
  intro p e s m below meth c ls X hr hlk hnm hsz hW hl
  have hl : lv_has ls 3 [(0, .ref (A (i))), (1, .ref (A (j0)))] := hl
  have lk_0 : ∀ w ∈ wsX50, w ∈ wsX5_against := by decide +kernel
  have lk_1 : Cond.fieldLink RX5 9 (TX5 0).1 (TX5 0).2.1 (TX5 0).2.2.1 ∈ wsX5_against := by decide +kernel
  obtain ⟨hlt, h0, pa, h1, hp⟩ := hN
  obtain ⟨hlu, k0, qa, k1, hq⟩ := hM
  refine x_iconst X dX5_against_0 ?_
  refine x_seti (((6 : Nat) : Int) - 1) rfl ?_
  refine lv_istore_n (lv' := [(2, .int (iI (((6 : Nat) : Int) - 1))), (0, .ref (A (i))), (1, .ref (A (j0)))]) X.1 X.2.1 dX5_against_1 rfl hl (by decide) rfl (fun ls hl => ?_)
  have loop_2 : ∀ (fuel : Nat) (k : Nat) (gw : Nat → va_E) (H : Heap) (locs : List Loc) (ls : Array Slot), (k) < fuel → (k ≤ 6) → (u / 1000000000 ^ k = v / 1000000000 ^ k) → (gw = g) → wH E (wF A n sz) A n s gw H locs → lv_has ls 3 [(0, .ref (A (i))), (1, .ref (A (j0))), (2, .int (iI ((k : Int) - 1)))] → W p l e ({ frames := 2, cells := 0, slots := 0, locals := 60 } : Room) s m [.ref (A (i)), .ref (A (j0))].toArray below meth c H locs 0 0 (MQ below (va_Qi (fun r g' => r = iI (if u < v then -1 else if u = v then 0 else 1) ∧ g' = g) (wAt E A n) (wF A n sz)) [.ref (A (i)), .ref (A (j0))].toArray s 0 0 (wF A n sz)) (F0 m 2 ls []) := by
    intro fuel
    induction fuel with
    | zero => intro k gw H locs ls hm; exact absurd hm (Nat.not_lt_zero _)
    | succ fuel ih_2 =>
      intro k gw H locs ls hm hk hs hgg hW hl
      have h0 : gw i = .inr (5, [.ref (A (i + 1))]) := by rw [hgg]; exact h0
      have h1 : gw (i + 1) = aI E 6 pa := by rw [hgg]; exact h1
      have k0 : gw j0 = .inr (5, [.ref (A (j0 + 1))]) := by rw [hgg]; exact k0
      have k1 : gw (j0 + 1) = aI E 6 qa := by rw [hgg]; exact k1
      refine lv_iload_n X.1 X.2.1 dX5_against_2 rfl (lv_at hl 2 rfl) ?_
      refine x_if_lt (tgt := 43) X ⟨by omega, by omega⟩ dX5_against_3 (by decide) (fun b_3 => ?_) (fun b_3 => ?_)
      · obtain rfl : k = 0 := by omega
        rw [Nat.pow_zero, Nat.div_one, Nat.div_one] at hs
        refine x_iconst X dX5_against_43 ?_
        exact x_iret X hr hlk hW (⟨by rw [hs, if_neg (Nat.lt_irrefl v), if_pos rfl], hgg⟩) dX5_against_44
      · obtain ⟨t, ht⟩ : ∃ t, k = t + 1 := ⟨k - 1, by omega⟩
        have hd1 := dg_lt u t
        have hd2 := dg_lt v t
        refine lv_aload_n X.1 X.2.1 dX5_against_6 rfl (lv_at hl 0 rfl) ?_
        refine x_get (C := RX5) (T := TX5) (N := 1) X hW (by omega) h0 rfl lk_0 0 (by decide) lk_1 rfl dX5_against_7 ?_
        refine lv_iload_n X.1 X.2.1 dX5_against_10 rfl (lv_at hl 2 rfl) ?_
        refine x_iald X hW (by omega) h1 (v := iI (((dg u t : Nat) : Int))) t (by omega) (by omega) (by decide) (hp t (by omega)) dX5_against_11 ?_
        refine lv_aload_n X.1 X.2.1 dX5_against_12 rfl (lv_at hl 1 rfl) ?_
        refine x_get (C := RX5) (T := TX5) (N := 1) X hW (by omega) k0 rfl lk_0 0 (by decide) lk_1 rfl dX5_against_13 ?_
        refine lv_iload_n X.1 X.2.1 dX5_against_16 rfl (lv_at hl 2 rfl) ?_
        refine x_iald X hW (by omega) k1 (v := iI (((dg v t : Nat) : Int))) t (by omega) (by omega) (by decide) (hq t (by omega)) dX5_against_17 ?_
        refine x_icmp_eq (tgt := 37) X ⟨by omega, by omega⟩ ⟨by omega, by omega⟩ dX5_against_18 (by decide) (fun b_18 => ?_) (fun b_18 => ?_)
        · refine lv_iinc (v := iI ((t : Int) - 1)) (lv' := [(2, .int (iI ((t : Int) - 1))), (0, .ref (A (i))), (1, .ref (A (j0)))]) X.1 X.2.1 dX5_against_37 hl (k := 2) rfl (by rw [show (Int32.ofInt (-1)) = iI (-1) from rfl, iI_add]; congr 1; omega) (by decide) rfl (fun ls hl => ?_)
          refine lv_goto (tgt := 2) X.1 X.2.1 dX5_against_40 (by decide) ?_
          exact ih_2 t gw _ _ _ (by omega) (by omega) (by rw [dv_split u t, dv_split v t, ← ht, hs]; omega) hgg hW (lv_sub hl [1, 2, 0] rfl)
        · refine lv_aload_n X.1 X.2.1 dX5_against_21 rfl (lv_at hl 0 rfl) ?_
          refine x_get (C := RX5) (T := TX5) (N := 1) X hW (by omega) h0 rfl lk_0 0 (by decide) lk_1 rfl dX5_against_22 ?_
          refine lv_iload_n X.1 X.2.1 dX5_against_25 rfl (lv_at hl 2 rfl) ?_
          refine x_iald X hW (by omega) h1 (v := iI (((dg u t : Nat) : Int))) t (by omega) (by omega) (by decide) (hp t (by omega)) dX5_against_26 ?_
          refine lv_aload_n X.1 X.2.1 dX5_against_27 rfl (lv_at hl 1 rfl) ?_
          refine x_get (C := RX5) (T := TX5) (N := 1) X hW (by omega) k0 rfl lk_0 0 (by decide) lk_1 rfl dX5_against_28 ?_
          refine lv_iload_n X.1 X.2.1 dX5_against_31 rfl (lv_at hl 2 rfl) ?_
          refine x_iald X hW (by omega) k1 (v := iI (((dg v t : Nat) : Int))) t (by omega) (by omega) (by decide) (hq t (by omega)) dX5_against_32 ?_
          refine x_ci (x_runS (k := 2) (As := [.int (iI (((dg u t : Nat) : Int))), .int (iI (((dg v t : Nat) : Int)))]) (rest := []) X hW (c_J6_compare_7cf53 l E A n _ gw ((dg u t : Nat) : Int) ((dg v t : Nat) : Int) ⟨by omega, by omega⟩ ⟨by omega, by omega⟩) gX5_against_J6_compare_7cf53 rfl rfl rfl (by decide +kernel) ⟨by decide, by decide⟩ rfl hl.1 rfl (by decide) dX5_against_33 ⟨Nat.zero_le _, Nat.zero_le _⟩) hW (fun r_33 g_33 H locs hp_33 hW => ?_)
          obtain ⟨hr_33, he_33⟩ := hp_33
          rw [he_33] at hW
          exact x_iret X hr hlk hW (⟨by rw [hr_33, ag_cmp (by rw [← ht]; exact hs) (by omega)], hgg⟩) dX5_against_36
  exact loop_2 _ 6 g _ _ _ (Nat.lt_succ_self _) (by omega) (by rw [Nat.div_eq_of_lt (by omega), Nat.div_eq_of_lt (by omega)]) rfl hW (lv_sub hl [1, 2, 0] rfl)

/-- how many parts of nine digits -/
def pcN (v : Nat) : Nat := if v / 1000000000 ^ 5 ≠ 0 then 6 else if v / 1000000000 ^ 4 ≠ 0 then 5 else if v / 1000000000 ^ 3 ≠ 0 then 4 else if v / 1000000000 ^ 2 ≠ 0 then 3 else if v / 1000000000 ^ 1 ≠ 0 then 2 else 1
theorem pcN_at {v k : Nat} (hk : 1 ≤ k) (hk6 : k ≤ 6) (hz : v / 1000000000 ^ k = 0) (h : k = 1 ∨ v / 1000000000 ^ (k - 1) ≠ 0) : pcN v = k := by
  have mono : ∀ a b, a ≤ b → v / 1000000000 ^ a = 0 → v / 1000000000 ^ b = 0 := fun a b hab h0 => by
    have h1 : v < 1000000000 ^ a := (Nat.div_eq_zero_iff_lt (bp a)).mp h0
    exact Nat.div_eq_of_lt (Nat.lt_of_lt_of_le h1 (Nat.pow_le_pow_right (by decide) hab))
  unfold pcN
  rcases (show k = 1 ∨ k = 2 ∨ k = 3 ∨ k = 4 ∨ k = 5 ∨ k = 6 by omega) with e | e | e | e | e | e
  all_goals subst e
  · rw [if_neg (by simpa using mono 1 5 (by omega) hz), if_neg (by simpa using mono 1 4 (by omega) hz), if_neg (by simpa using mono 1 3 (by omega) hz), if_neg (by simpa using mono 1 2 (by omega) hz), if_neg (not_not_intro hz)]
  · rw [if_neg (not_not_intro (mono 2 5 (by omega) hz)), if_neg (not_not_intro (mono 2 4 (by omega) hz)), if_neg (not_not_intro (mono 2 3 (by omega) hz)), if_neg (not_not_intro hz), if_pos (by rcases h with h | h; omega; exact h)]
  · rw [if_neg (not_not_intro (mono 3 5 (by omega) hz)), if_neg (not_not_intro (mono 3 4 (by omega) hz)), if_neg (not_not_intro hz), if_pos (by rcases h with h | h; omega; exact h)]
  · rw [if_neg (not_not_intro (mono 4 5 (by omega) hz)), if_neg (not_not_intro hz), if_pos (by rcases h with h | h; omega; exact h)]
  · rw [if_neg (not_not_intro hz), if_pos (by rcases h with h | h; omega; exact h)]
  · rw [if_pos (by rcases h with h | h; omega; exact h)]

set_option maxHeartbeats 4000000 in
set_option maxRecDepth 100000 in
/-- partCount -/
theorem c_X5_partCount (l : Launch) (E : wE) (A : Nat → Nat) (n sz : Nat) (g : Nat → va_E) (i v : Nat) (hi : i + 1 < n) (hN : NatV E A g i v) : Met l yX5_partCount wsX5_partCount ({ frames := 1, cells := 0, slots := 0, locals := 30 } : Room) (va_Pc [.ref (A (i))] (wPre E A n sz g)) (va_Qi (fun r g' => r = iI ((pcN v : Nat) : Int) ∧ g' = g) (wAt E A n) (wF A n sz)) 0 0 (wF A n sz) := by
  refine x_met (cc := cX5_partCount) (maxL := 2) (ret := (some .int)) [.ref (A (i))] (by decide) rfl (Nat.le_of_ble_eq_true rfl) ?_
  intro p e s m below meth c ls X hr hlk hnm hsz hW hl
  have hl : lv_has ls 2 [(0, .ref (A (i)))] := hl
  have lk_0 : ∀ w ∈ wsX50, w ∈ wsX5_partCount := by decide +kernel
  have lk_1 : Cond.fieldLink RX5 9 (TX5 0).1 (TX5 0).2.1 (TX5 0).2.2.1 ∈ wsX5_partCount := by decide +kernel
  obtain ⟨hlt, h0, pa, h1, hp⟩ := hN
  refine x_bipush X (by decide) dX5_partCount_0 ?_
  refine lv_istore_n (lv' := [(1, .int (iI (6))), (0, .ref (A (i)))]) X.1 X.2.1 dX5_partCount_2 rfl hl (by decide) rfl (fun ls hl => ?_)
  have loop_3 : ∀ (fuel : Nat) (k : Nat) (gw : Nat → va_E) (H : Heap) (locs : List Loc) (ls : Array Slot), (k) < fuel → (1 ≤ k) → (k ≤ 6) → (v / 1000000000 ^ k = 0) → (gw = g) → wH E (wF A n sz) A n s gw H locs → lv_has ls 2 [(0, .ref (A (i))), (1, .int (iI ((k : Int))))] → W p l e ({ frames := 1, cells := 0, slots := 0, locals := 30 } : Room) s m [.ref (A (i))].toArray below meth c H locs 0 0 (MQ below (va_Qi (fun r g' => r = iI ((pcN v : Nat) : Int) ∧ g' = g) (wAt E A n) (wF A n sz)) [.ref (A (i))].toArray s 0 0 (wF A n sz)) (F0 m 3 ls []) := by
    intro fuel
    induction fuel with
    | zero => intro k gw H locs ls hm; exact absurd hm (Nat.not_lt_zero _)
    | succ fuel ih_3 =>
      intro k gw H locs ls hm hk1 hk hs hgg hW hl
      have h0 : gw i = .inr (5, [.ref (A (i + 1))]) := by rw [hgg]; exact h0
      have h1 : gw (i + 1) = aI E 6 pa := by rw [hgg]; exact h1
      refine lv_iload_n X.1 X.2.1 dX5_partCount_3 rfl (lv_at hl 1 rfl) ?_
      refine x_iconst X dX5_partCount_4 ?_
      refine x_icmp_le (tgt := 25) X ⟨by omega, by omega⟩ ⟨by decide, by decide⟩ dX5_partCount_5 (by decide) (fun b_5 => ?_) (fun b_5 => ?_)
      · refine lv_iload_n X.1 X.2.1 dX5_partCount_25 rfl (lv_at hl 1 rfl) ?_
        exact x_iret X hr hlk hW (⟨by rw [pcN_at hk1 hk hs (by first | (left; omega) | (right; rw [show k - 1 = t from by omega, dv_split v t]; omega))], hgg⟩) dX5_partCount_26
      · obtain ⟨t, ht⟩ : ∃ t, k = t + 1 := ⟨k - 1, by omega⟩
        have hd1 := dg_lt v t
        refine lv_aload_n X.1 X.2.1 dX5_partCount_8 rfl (lv_at hl 0 rfl) ?_
        refine x_get (C := RX5) (T := TX5) (N := 1) X hW (by omega) h0 rfl lk_0 0 (by decide) lk_1 rfl dX5_partCount_9 ?_
        refine lv_iload_n X.1 X.2.1 dX5_partCount_12 rfl (lv_at hl 1 rfl) ?_
        refine x_iconst X dX5_partCount_13 ?_
        refine x_isub X dX5_partCount_14 ?_
        refine x_iald X hW (by omega) h1 (v := iI (((dg v t : Nat) : Int))) t (by omega) (by omega) (by decide) (hp t (by omega)) dX5_partCount_15 ?_
        refine x_if_ne (tgt := 25) X ⟨by omega, by omega⟩ dX5_partCount_16 (by decide) (fun b_16 => ?_) (fun b_16 => ?_)
        · refine lv_iload_n X.1 X.2.1 dX5_partCount_25 rfl (lv_at hl 1 rfl) ?_
          exact x_iret X hr hlk hW (⟨by rw [pcN_at hk1 hk hs (by first | (left; omega) | (right; rw [show k - 1 = t from by omega, dv_split v t]; omega))], hgg⟩) dX5_partCount_26
        · refine lv_iinc (v := iI ((t : Int))) (lv' := [(1, .int (iI ((t : Int)))), (0, .ref (A (i)))]) X.1 X.2.1 dX5_partCount_19 hl (k := 1) rfl (by rw [show (Int32.ofInt (-1)) = iI (-1) from rfl, iI_add]; congr 1; omega) (by decide) rfl (fun ls hl => ?_)
          refine lv_goto (tgt := 3) X.1 X.2.1 dX5_partCount_22 (by decide) ?_
          exact ih_3 t gw _ _ _ (by omega) (by omega) (by omega) (by rw [dv_split v t, ← ht, hs]; omega) hgg hW (lv_sub hl [1, 0] rfl)
  exact loop_3 _ 6 g _ _ _ (Nat.lt_succ_self _) (by omega) (by omega) (Nat.div_eq_of_lt (by omega)) rfl hW (lv_sub hl [1, 0] rfl)

theorem pcN_le (v : Nat) : pcN v ≤ 6 := by
  unfold pcN
  repeat (first | omega | split)
theorem pcN_1 {v : Nat} (h : pcN v = 1) : v < 1000000000 := by
  unfold pcN at h
  by_cases h1 : v / 1000000000 ^ 1 ≠ 0
  · rw [if_pos h1] at h
    split at h <;> first | omega | (split at h <;> first | omega | (split at h <;> first | omega | (split at h <;> omega)))
  · have := Decidable.not_not.mp h1
    exact (Nat.div_eq_zero_iff_lt (by decide)).mp this
theorem pc_zero (v : Nat) : (if v = 0 then (1 : Int) else 0) = if ((pcN v : Nat) : Int) = 1 ∧ ((dg v 0 : Nat) : Int) = 0 then 1 else 0 := by
  by_cases h : v = 0
  · subst h
    rfl
  · rw [if_neg h, if_neg]
    rintro ⟨h1, h2⟩
    have h3 := pcN_1 (v := v) (by omega)
    have : dg v 0 = v := by unfold dg; rw [Nat.pow_zero, Nat.div_one, Nat.mod_eq_of_lt h3]
    omega

set_option maxHeartbeats 4000000 in
set_option maxRecDepth 100000 in
/-- isZero -/
theorem c_X5_isZero (l : Launch) (E : wE) (A : Nat → Nat) (n sz : Nat) (g : Nat → va_E) (i v : Nat) (hi : i + 1 < n) (hN : NatV E A g i v) : Met l yX5_isZero wsX5_isZero ({ frames := 2, cells := 0, slots := 0, locals := 60 } : Room) (va_Pc [.ref (A (i))] (wPre E A n sz g)) (va_Qi (fun r g' => r = iI (if v = 0 then 1 else 0) ∧ g' = g) (wAt E A n) (wF A n sz)) 0 0 (wF A n sz) := by
  refine x_met (cc := cX5_isZero) (maxL := 1) (ret := (some .boolean)) [.ref (A (i))] (by decide) rfl (Nat.le_of_ble_eq_true rfl) ?_
  intro p e s m below meth c ls X hr hlk hnm hsz hW hl
  have hl : lv_has ls 1 [(0, .ref (A (i)))] := hl
  have lk_0 : ∀ w ∈ wsX50, w ∈ wsX5_isZero := by decide +kernel
  have lk_1 : Cond.fieldLink RX5 9 (TX5 0).1 (TX5 0).2.1 (TX5 0).2.2.1 ∈ wsX5_isZero := by decide +kernel
  have hN2 := hN
  obtain ⟨hlt, h0, pa, h1, hp⟩ := hN
  refine lv_aload_n X.1 X.2.1 dX5_isZero_0 rfl (lv_at hl 0 rfl) ?_
  refine x_ci (x_runV (k := 0) (As := []) (rest := []) X hW (c_X5_partCount l E A n _ g i v hi hN2) (by omega) h0 rfl gX5_isZero_X5_partCount rfl rfl rfl (by decide +kernel) ⟨by decide, by decide⟩ rfl hl.1 rfl (by decide) dX5_isZero_1 ⟨Nat.zero_le _, Nat.zero_le _⟩) hW (fun r_1 g_1 H locs hp_1 hW => ?_)
  obtain ⟨hr_1, he_1⟩ := hp_1
  rw [he_1] at hW
  subst hr_1
  refine x_iconst X dX5_isZero_4 ?_
  refine x_icmp_ne (tgt := 21) X ⟨by omega, by have := pcN_le v; omega⟩ ⟨by decide, by decide⟩ dX5_isZero_5 (by decide) (fun b_5 => ?_) (fun b_5 => ?_)
  · refine x_iconst X dX5_isZero_21 ?_
    exact x_zret X hr hlk (by decide) hW (⟨by congr 1; rw [pc_zero v]; repeat (first | rfl | omega | split), rfl⟩) dX5_isZero_22
  · refine lv_aload_n X.1 X.2.1 dX5_isZero_8 rfl (lv_at hl 0 rfl) ?_
    refine x_get (C := RX5) (T := TX5) (N := 1) X hW (by omega) h0 rfl lk_0 0 (by decide) lk_1 rfl dX5_isZero_9 ?_
    refine x_iconst X dX5_isZero_12 ?_
    refine x_iald X hW (by omega) h1 (v := iI (((dg v 0 : Nat) : Int))) 0 (by omega) (by omega) (by decide) (hp 0 (by omega)) dX5_isZero_13 ?_
    refine x_if_ne (tgt := 21) X ⟨by have := dg_lt v 0; omega, by have := dg_lt v 0; omega⟩ dX5_isZero_14 (by decide) (fun b_14 => ?_) (fun b_14 => ?_)
    · refine x_iconst X dX5_isZero_21 ?_
      exact x_zret X hr hlk (by decide) hW (⟨by congr 1; rw [pc_zero v]; repeat (first | rfl | omega | split), rfl⟩) dX5_isZero_22
    · refine x_iconst X dX5_isZero_17 ?_
      refine lv_goto (tgt := 22) X.1 X.2.1 dX5_isZero_18 (by decide) ?_
      exact x_zret X hr hlk (by decide) hW (⟨by congr 1; rw [pc_zero v]; repeat (first | rfl | omega | split), rfl⟩) dX5_isZero_22

set_option maxHeartbeats 4000000 in
set_option maxRecDepth 100000 in
/-- partAt -/
theorem c_X5_partAt (l : Launch) (E : wE) (A : Nat → Nat) (n sz : Nat) (g : Nat → va_E) (i v : Nat) (z : Int) (hi : i + 1 < n) (hN : NatV E A g i v) (hz : I32 z) : Met l yX5_partAt wsX5_partAt ({ frames := 2, cells := 0, slots := 0, locals := 60 } : Room) (va_Pc [.ref (A (i)), .int (iI (z))] (wPre E A n sz g)) (va_Qi (fun r g' => r = iI (if 0 ≤ z ∧ z ≤ 5 then ((dg v z.toNat : Nat) : Int) else 0) ∧ g' = g) (wAt E A n) (wF A n sz)) 0 0 (wF A n sz) := by
  refine x_met (cc := cX5_partAt) (maxL := 2) (ret := (some .int)) [.ref (A (i)), .int (iI (z))] (by decide) rfl (Nat.le_of_ble_eq_true rfl) ?_
  intro p e s m below meth c ls X hr hlk hnm hsz hW hl
  have hl : lv_has ls 2 [(0, .ref (A (i))), (1, .int (iI (z)))] := hl
  have lk_0 : Cond.constantLong RX5 43 (5) ∈ wsX5_partAt := by decide +kernel
  have lk_1 : Cond.initialized yX10_isWithin.cls ∈ wsX5_partAt := by decide +kernel
  have lk_2 : Cond.static yX10_isWithin ∈ wsX5_partAt := by decide +kernel
  have lk_3 : ∀ w ∈ wsX50, w ∈ wsX5_partAt := by decide +kernel
  have lk_4 : Cond.fieldLink RX5 9 (TX5 0).1 (TX5 0).2.1 (TX5 0).2.2.1 ∈ wsX5_partAt := by decide +kernel
  obtain ⟨hlt, h0, pa, h1, hp⟩ := hN
  refine lv_iload_n X.1 X.2.1 dX5_partAt_0 rfl (lv_at hl 1 rfl) ?_
  refine x_i2l X hz dX5_partAt_1 ?_
  refine x_lconst X 0 (by decide) dX5_partAt_2 ?_
  refine x_ldc2 X (5) (by decide) lk_0 dX5_partAt_3 ?_
  refine x_ci (x_runSN (k := 3) (As := [.long (lI (z)), .long (lI (0)), .long (lI (5))]) (rest := []) X hW (c_X10_isWithin l E A n _ g z 0 5 ⟨by have := hz.1; omega, by have := hz.2; omega⟩ ⟨by decide, by decide⟩ ⟨by decide, by decide⟩) gX5_partAt_X10_isWithin_n45 rfl rfl rfl (by decide +kernel) lk_1 lk_2 (by decide +kernel) ⟨by decide, by decide⟩ rfl hl.1 rfl (by decide) dX5_partAt_6 ⟨Nat.zero_le _, Nat.zero_le _⟩) hW (fun r_6 g_6 H locs hp_6 hW => ?_)
  obtain ⟨hr_6, he_6⟩ := hp_6
  rw [he_6] at hW
  subst hr_6
  refine x_if_eq (tgt := 21) X ⟨by split <;> omega, by split <;> omega⟩ dX5_partAt_9 (by decide) (fun b_9 => ?_) (fun b_9 => ?_)
  · have hz5 : ¬ (0 ≤ z ∧ z ≤ 5) := fun h => by rw [if_pos h] at b_9; omega
    refine x_iconst X dX5_partAt_21 ?_
    exact x_iret X hr hlk hW (⟨by first | rw [if_pos hz5] | rw [if_neg hz5], rfl⟩) dX5_partAt_22
  · have hz5 : 0 ≤ z ∧ z ≤ 5 := Decidable.byContradiction (fun h => by rw [if_neg h] at b_9; exact b_9 rfl)
    refine lv_aload_n X.1 X.2.1 dX5_partAt_12 rfl (lv_at hl 0 rfl) ?_
    refine x_get (C := RX5) (T := TX5) (N := 1) X hW (by omega) h0 rfl lk_3 0 (by decide) lk_4 rfl dX5_partAt_13 ?_
    refine lv_iload_n X.1 X.2.1 dX5_partAt_16 rfl (lv_at hl 1 rfl) ?_
    refine x_iald X hW (by omega) h1 (v := iI (((dg v z.toNat : Nat) : Int))) z.toNat (by omega) (by omega) (by decide) (hp _ (by omega)) dX5_partAt_17 ?_
    refine lv_goto (tgt := 22) X.1 X.2.1 dX5_partAt_18 (by decide) ?_
    exact x_iret X hr hlk hW (⟨by first | rw [if_pos hz5] | rw [if_neg hz5], rfl⟩) dX5_partAt_22
