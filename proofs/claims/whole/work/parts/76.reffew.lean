/-! ===== the reference: few ===== -/
theorem ifc {a b c d x y : Nat} (h : a < b ↔ c < d) : (if a < b then x else y) = if c < d then x else y := by
  by_cases hb : a < b
  · rw [if_pos hb, if_pos (h.mp hb)]
  · rw [if_neg hb, if_neg (fun k => hb (h.mpr k))]

set_option maxHeartbeats 4000000 in
set_option maxRecDepth 100000 in
/-- few -/
theorem c_X11_few (l : Launch) (E : wE) (A : Nat → Nat) (n sz : Nat) (g : Nat → va_E) (i : Nat) (q : Nat → Int) (N : Nat → Int) (bk : Nat) (L : Nat → List (Nat × Nat)) (cz : Nat) (co br : Nat → Nat) (z : Int) (hi : i + 16 < n) (hO : g i = mO A i q) (hN : MN E A g i N) (hB : BooksM E A g i bk L) (hq1 : q 1 = (cz : Int)) (hC : ComM E A g i bk cz co br) (hz : I32 z) : Met l yX11_few wsX11_few ({ frames := 7, cells := 0, slots := 0, locals := 260 } : Room) (va_Pc [.ref (A (i)), .int (iI (z))] (wPre E A n sz g)) (va_Qi (fun r g' => r = iI (if 0 ≤ z ∧ z ≤ 10 then 1 else 0) ∧ (0 ≤ z ∧ z ≤ 10 → MR E A g' i (rdT ((chN (LkM L co) cz z.toNat cz z.toNat : Nat) : Int) (foA (LkM L co) cz cz)) (rdB ((chN (LkM L co) cz z.toNat cz z.toNat : Nat) : Int) (foA (LkM L co) cz cz))) ∧ (¬ (0 ≤ z ∧ z ≤ 10) → g' = g) ∧ ∀ j, j ≠ i + 1 → g' j = g j) (wAt E A n) (wF A n sz)) 0 0 (wF A n sz) := by
  refine x_met (cc := cX11_few) (maxL := 7) (ret := (some .boolean)) [.ref (A (i)), .int (iI (z))] (by decide) rfl (Nat.le_of_ble_eq_true rfl) ?_
  intro p_ e_ s_ m_ below meth c_ ls X hr hlk hnm hsz hW hl
  have hl : lv_has ls 7 [(0, .ref (A (i))), (1, .int (iI (z)))] := hl
  have lk_0 : ∀ w ∈ wsX110, w ∈ wsX11_few := by decide +kernel
  have lk_1 : Cond.fieldLink RX11 127 (TX11 9).1 (TX11 9).2.1 (TX11 9).2.2.1 ∈ wsX11_few := by decide +kernel
  have lk_2 : Cond.fieldLink RX11 36 (TX11 10).1 (TX11 10).2.1 (TX11 10).2.2.1 ∈ wsX11_few := by decide +kernel
  have lk_3 : Cond.fieldLink RX11 33 (TX11 8).1 (TX11 8).2.1 (TX11 8).2.2.1 ∈ wsX11_few := by decide +kernel
  have lk_4 : Cond.fieldLink RX11 24 (TX11 5).1 (TX11 5).2.1 (TX11 5).2.2.1 ∈ wsX11_few := by decide +kernel
  have lk_5 : Cond.fieldLink RX11 27 (TX11 6).1 (TX11 6).2.1 (TX11 6).2.2.1 ∈ wsX11_few := by decide +kernel
  have lk_6 : Cond.fieldLink RX11 30 (TX11 7).1 (TX11 7).2.1 (TX11 7).2.2.1 ∈ wsX11_few := by decide +kernel
  have hO : g i = .inr (11, [.ref (A (i + 1)), .ref (A (i + 2)), .ref (A (i + 3)), .ref (A (i + 4)), .int (iI (q 0)), .ref (A (i + 5)), .ref (A (i + 6)), .ref (A (i + 7)), .ref (A (i + 8)), .int (iI (q 1)), .ref (A (i + 9)), .ref (A (i + 10)), .ref (A (i + 11)), .int (iI (q 2)), .ref (A (i + 12)), .ref (A (i + 13)), .int (iI (q 3)), .ref (A (i + 14)), .ref (A (i + 15)), .ref (A (i + 16)), .int (iI (q 4))]) := hO
  have hOg := hO
  have hfr : ∀ j, j ≠ i + 1 → g j = g j := fun _ _ => rfl
  have hBo := hB
  obtain ⟨f5, f6, f7, f8, h5, h6, h7, h8, hbk, hbv⟩ := id hB
  have h5o := h5
  have h6o := h6
  have h7o := h7
  have h8o := h8
  have hCo := hC
  obtain ⟨f9, f10, h9, h10, hc10, hcv⟩ := id hC
  have h9o := h9
  have h10o := h10
  have hok0 : ∀ k, k < cz → bOK (LkM L co k) := fun k hk => by
    have hk2 := (hcv k hk).1
    exact ⟨(hbv _ hk2).1, fun u hu => ((hbv _ hk2).2.2.2.2 u hu).2.2⟩
  have hcap0 : ∀ k, k < cz → bE (LkM L co k) (fun _ => 1) ≤ 8000 ∧ (∀ b : Int, bBelow (LkM L co k) b ≤ 8000) ∧ ∀ b : Int, bGath (LkM L co k) b ≤ 8000000 := fun k hk => ⟨bOK_tot (hok0 k hk), fun b => bOK_below (hok0 k hk) b, fun b => bOK_gath (hok0 k hk) b⟩
  have hpos0 : ∀ k, k < cz → 0 < bE (LkM L co k) (fun _ => 1) := fun k hk => (hbv _ (hcv k hk).1).2.2.2.1
  have hA1 := foA_le (fun k hk => (hcap0 k hk).1) cz (Nat.le_refl _)
  have hA0 := foA_pos hpos0 cz (Nat.le_refl _)
  have hpc := pow_cap hc10
  have hz1 := hz.1
  have hz2 := hz.2
  refine lv_iload_n X.1 X.2.1 dX11_few_0 rfl (lv_at hl 1 rfl) ?_
  refine x_if_lt (tgt := 10) X hz dX11_few_1 (by decide) (fun b_1 => ?_) (fun b_1 => ?_)
  · refine x_iconst X dX11_few_10 ?_
    exact x_zret X hr hlk (by decide) hW (⟨by rw [if_neg (by omega)], fun h => absurd h (by omega), fun _ => rfl, fun _ _ => rfl⟩) dX11_few_11
  · refine lv_iload_n X.1 X.2.1 dX11_few_4 rfl (lv_at hl 1 rfl) ?_
    refine x_bipush X (by decide) dX11_few_5 ?_
    refine x_icmp_le (tgt := 12) X hz ⟨by decide, by decide⟩ dX11_few_7 (by decide) (fun b_7 => ?_) (fun b_7 => ?_)
    · obtain ⟨K, hK⟩ : ∃ K, K = z.toNat := ⟨_, rfl⟩
      have hzK : z = (K : Int) := by omega
      have hK10 : K ≤ 10 := by omega
      refine x_iconst X dX11_few_12 ?_
      refine x_seti (((0 : Nat) : Int)) rfl ?_
      refine lv_istore_n (lv' := [(2, .int (iI (((0 : Nat) : Int)))), (0, .ref (A (i))), (1, .int (iI (z)))]) X.1 X.2.1 dX11_few_13 rfl hl (by decide) rfl (fun ls hl => ?_)
      have loop_14 : ∀ (fuel : Nat) (m : Nat) (N1 : Nat → Int) (g1 : Nat → va_E) (H : Heap) (locs : List Loc) (ls : Array Slot), (K + 1 - m) < fuel → (m ≤ K + 1) → (MN E A g1 i N1) → (∀ y, y < m → N1 (10 + y) = 0) → (∀ j, j ≠ i + 1 → g1 j = g j) → wH E (wF A n sz) A n s_ g1 H locs → lv_has ls 7 [(0, .ref (A (i))), (1, .int (iI (z))), (2, .int (iI (((m : Nat) : Int))))] → W p_ l e_ ({ frames := 7, cells := 0, slots := 0, locals := 260 } : Room) s_ m_ [.ref (A (i)), .int (iI (z))].toArray below meth c_ H locs 0 0 (MQ below (va_Qi (fun r g' => r = iI (if 0 ≤ z ∧ z ≤ 10 then 1 else 0) ∧ (0 ≤ z ∧ z ≤ 10 → MR E A g' i (rdT ((chN (LkM L co) cz z.toNat cz z.toNat : Nat) : Int) (foA (LkM L co) cz cz)) (rdB ((chN (LkM L co) cz z.toNat cz z.toNat : Nat) : Int) (foA (LkM L co) cz cz))) ∧ (¬ (0 ≤ z ∧ z ≤ 10) → g' = g) ∧ ∀ j, j ≠ i + 1 → g' j = g j) (wAt E A n) (wF A n sz)) [.ref (A (i)), .int (iI (z))].toArray s_ 0 0 (wF A n sz)) (F0 m_ 14 ls []) := by
        intro fuel
        induction fuel with
        | zero => intro m N1 g1 H locs ls hm; exact absurd hm (Nat.not_lt_zero _)
        | succ fuel ih_14 =>
          intro m N1 g1 H locs ls hm hm hN hZ hfr hW hl
          have hO : g1 i = .inr (11, [.ref (A (i + 1)), .ref (A (i + 2)), .ref (A (i + 3)), .ref (A (i + 4)), .int (iI (q 0)), .ref (A (i + 5)), .ref (A (i + 6)), .ref (A (i + 7)), .ref (A (i + 8)), .int (iI (q 1)), .ref (A (i + 9)), .ref (A (i + 10)), .ref (A (i + 11)), .int (iI (q 2)), .ref (A (i + 12)), .ref (A (i + 13)), .int (iI (q 3)), .ref (A (i + 14)), .ref (A (i + 15)), .ref (A (i + 16)), .int (iI (q 4))]) := (hfr _ (by omega)).trans hOg
          have h5 : g1 (i + 5) = aI E 16 f5 := (hfr _ (by omega)).trans h5o
          have h6 : g1 (i + 6) = aI E 128 f6 := (hfr _ (by omega)).trans h6o
          have h7 : g1 (i + 7) = aI E 128 f7 := (hfr _ (by omega)).trans h7o
          have h8 : g1 (i + 8) = aI E 16 f8 := (hfr _ (by omega)).trans h8o
          have h9 : g1 (i + 9) = aI E 10 f9 := (hfr _ (by omega)).trans h9o
          have h10 : g1 (i + 10) = aI E 10 f10 := (hfr _ (by omega)).trans h10o
          have hotA : ∀ x, x ≠ 10 + m → N1 x = N1 x := fun _ _ => rfl
          refine lv_iload_n X.1 X.2.1 dX11_few_14 rfl (lv_at hl 2 rfl) ?_
          refine lv_iload_n X.1 X.2.1 dX11_few_15 rfl (lv_at hl 1 rfl) ?_
          refine x_icmp_gt (tgt := 34) X ⟨by omega, by omega⟩ hz dX11_few_16 (by decide) (fun b_16 => ?_) (fun b_16 => ?_)
          · refine lv_aload_n X.1 X.2.1 dX11_few_34 rfl (lv_at hl 0 rfl) ?_
            refine x_bipush X (by decide) dX11_few_35 ?_
            refine x_lconst X 1 (by decide) dX11_few_37 ?_
            refine x_cv (x_runV (k := 2) (As := [.int (iI (30)), .long (lI (1))]) (rest := []) X hW (c_X11_set l E A n _ g1 i (30) q N1 (1) hi hO (by omega) hN (by decide) (by decide)) (by omega) hO rfl gX11_few_X11_set rfl rfl rfl (by decide +kernel) ⟨by decide, by decide⟩ rfl hl.1 rfl (Nat.le_of_ble_eq_true rfl) dX11_few_38 ⟨Nat.zero_le _, Nat.zero_le _⟩) hW (fun g_38 H locs hp_38 hW => ?_)
            obtain ⟨hN, hf_38⟩ := hp_38
            obtain ⟨N_38, hN_38⟩ : ∃ N9 : Nat → Int, N9 = va_up N1 30 (1) := ⟨_, rfl⟩
            rw [← hN_38] at hN
            have hO : g_38 i = .inr (11, [.ref (A (i + 1)), .ref (A (i + 2)), .ref (A (i + 3)), .ref (A (i + 4)), .int (iI (q 0)), .ref (A (i + 5)), .ref (A (i + 6)), .ref (A (i + 7)), .ref (A (i + 8)), .int (iI (q 1)), .ref (A (i + 9)), .ref (A (i + 10)), .ref (A (i + 11)), .int (iI (q 2)), .ref (A (i + 12)), .ref (A (i + 13)), .int (iI (q 3)), .ref (A (i + 14)), .ref (A (i + 15)), .ref (A (i + 16)), .int (iI (q 4))]) := by rw [hf_38 _ (by omega)]; exact hO
            have h5 : g_38 (i + 5) = aI E 16 f5 := by rw [hf_38 _ (by omega)]; exact h5
            have h6 : g_38 (i + 6) = aI E 128 f6 := by rw [hf_38 _ (by omega)]; exact h6
            have h7 : g_38 (i + 7) = aI E 128 f7 := by rw [hf_38 _ (by omega)]; exact h7
            have h8 : g_38 (i + 8) = aI E 16 f8 := by rw [hf_38 _ (by omega)]; exact h8
            have h9 : g_38 (i + 9) = aI E 10 f9 := by rw [hf_38 _ (by omega)]; exact h9
            have h10 : g_38 (i + 10) = aI E 10 f10 := by rw [hf_38 _ (by omega)]; exact h10
            have v_30 : N_38 30 = 1 := by rw [hN_38, va_up_self]
            have hfr : ∀ j, j ≠ i + 1 → g_38 j = g j := fun j hj => (hf_38 j hj).trans (hfr j hj)
            have hZ2 : ∀ y, y ≤ K → N_38 (10 + y) = 0 := fun y hy => by rw [hN_38, va_up_ne _ _ (by omega)]; exact hZ y (by omega)
            refine lv_aload_n X.1 X.2.1 dX11_few_41 rfl (lv_at hl 0 rfl) ?_
            refine x_get (C := RX11) (T := TX11) (N := 21) X hW (by omega) hO rfl lk_0 9 (by decide) lk_1 rfl dX11_few_42 ?_
            refine x_seti ((cz : Int)) hq1 ?_
            refine x_iconst X dX11_few_45 ?_
            refine x_isub X dX11_few_46 ?_
            refine x_seti ((cz : Int) - 1 - ((0 : Nat) : Int)) (by omega) ?_
            refine lv_istore_n (lv' := [(2, .int (iI ((cz : Int) - 1 - ((0 : Nat) : Int)))), (0, .ref (A (i))), (1, .int (iI (z)))]) X.1 X.2.1 dX11_few_47 rfl hl (by decide) rfl (fun ls hl => ?_)
            have loop_48 : ∀ (fuel : Nat) (d : Nat) (N2 : Nat → Int) (g2 : Nat → va_E) (H : Heap) (locs : List Loc) (ls : Array Slot), (cz - d) < fuel → (d ≤ cz) → (MN E A g2 i N2) → (∀ y, y ≤ K → N2 (10 + y) = ((chN (LkM L co) cz K d y : Nat) : Int)) → (N2 30 = ((foA (LkM L co) cz d : Nat) : Int)) → (∀ j, j ≠ i + 1 → g2 j = g j) → wH E (wF A n sz) A n s_ g2 H locs → lv_has ls 7 [(0, .ref (A (i))), (1, .int (iI (z))), (2, .int (iI ((cz : Int) - 1 - (d : Int))))] → W p_ l e_ ({ frames := 7, cells := 0, slots := 0, locals := 260 } : Room) s_ m_ [.ref (A (i)), .int (iI (z))].toArray below meth c_ H locs 0 0 (MQ below (va_Qi (fun r g' => r = iI (if 0 ≤ z ∧ z ≤ 10 then 1 else 0) ∧ (0 ≤ z ∧ z ≤ 10 → MR E A g' i (rdT ((chN (LkM L co) cz z.toNat cz z.toNat : Nat) : Int) (foA (LkM L co) cz cz)) (rdB ((chN (LkM L co) cz z.toNat cz z.toNat : Nat) : Int) (foA (LkM L co) cz cz))) ∧ (¬ (0 ≤ z ∧ z ≤ 10) → g' = g) ∧ ∀ j, j ≠ i + 1 → g' j = g j) (wAt E A n) (wF A n sz)) [.ref (A (i)), .int (iI (z))].toArray s_ 0 0 (wF A n sz)) (F0 m_ 48 ls []) := by
              intro fuel
              induction fuel with
              | zero => intro d N2 g2 H locs ls hm; exact absurd hm (Nat.not_lt_zero _)
              | succ fuel ih_48 =>
                intro d N2 g2 H locs ls hm hd hN hT v_30 hfr hW hl
                have hO : g2 i = .inr (11, [.ref (A (i + 1)), .ref (A (i + 2)), .ref (A (i + 3)), .ref (A (i + 4)), .int (iI (q 0)), .ref (A (i + 5)), .ref (A (i + 6)), .ref (A (i + 7)), .ref (A (i + 8)), .int (iI (q 1)), .ref (A (i + 9)), .ref (A (i + 10)), .ref (A (i + 11)), .int (iI (q 2)), .ref (A (i + 12)), .ref (A (i + 13)), .int (iI (q 3)), .ref (A (i + 14)), .ref (A (i + 15)), .ref (A (i + 16)), .int (iI (q 4))]) := (hfr _ (by omega)).trans hOg
                have h5 : g2 (i + 5) = aI E 16 f5 := (hfr _ (by omega)).trans h5o
                have h6 : g2 (i + 6) = aI E 128 f6 := (hfr _ (by omega)).trans h6o
                have h7 : g2 (i + 7) = aI E 128 f7 := (hfr _ (by omega)).trans h7o
                have h8 : g2 (i + 8) = aI E 16 f8 := (hfr _ (by omega)).trans h8o
                have h9 : g2 (i + 9) = aI E 10 f9 := (hfr _ (by omega)).trans h9o
                have h10 : g2 (i + 10) = aI E 10 f10 := (hfr _ (by omega)).trans h10o
                refine lv_iload_n X.1 X.2.1 dX11_few_48 rfl (lv_at hl 2 rfl) ?_
                refine x_if_lt (tgt := 213) X ⟨by omega, by omega⟩ dX11_few_49 (by decide) (fun b_49 => ?_) (fun b_49 => ?_)
                · rw [show d = cz from by omega] at hT v_30
                  have v_10___K := hT K (Nat.le_refl _)
                  have hM1 := chN_cap (K := K) hok0 cz (Nat.le_refl _) K
                  refine lv_aload_n X.1 X.2.1 dX11_few_213 rfl (lv_at hl 0 rfl) ?_
                  refine x_bipush X (by decide) dX11_few_214 ?_
                  refine lv_iload_n X.1 X.2.1 dX11_few_216 rfl (lv_at hl 1 rfl) ?_
                  refine x_iadd X dX11_few_217 ?_
                  refine x_seti (((10 + K : Nat) : Int)) (by omega) ?_
                  refine x_bipush X (by decide) dX11_few_218 ?_
                  refine x_cv (x_runV (k := 2) (As := [.int (iI (((10 + K : Nat) : Int))), .int (iI (30))]) (rest := []) X hW (c_X11_result l E A n _ g2 i (10 + K) (30) q N2 (((chN (LkM L co) cz K cz K : Nat) : Int)) (foA (LkM L co) cz cz) hi hO (by omega) (by omega) (by omega) (by omega) hN v_10___K v_30 hA0 (by omega) (by omega) (by omega)) (by omega) hO rfl gX11_few_X11_result rfl rfl rfl (by decide +kernel) ⟨by decide, by decide⟩ rfl hl.1 rfl (Nat.le_of_ble_eq_true rfl) dX11_few_220 ⟨Nat.zero_le _, Nat.zero_le _⟩) hW (fun g_220 H locs hp_220 hW => ?_)
                  obtain ⟨⟨N_220, hN, v_0, v_1, ho8_220⟩, hf_220⟩ := hp_220
                  have hfr : ∀ j, j ≠ i + 1 → g_220 j = g j := fun j hj => (hf_220 j hj).trans (hfr j hj)
                  have hO : g_220 i = .inr (11, [.ref (A (i + 1)), .ref (A (i + 2)), .ref (A (i + 3)), .ref (A (i + 4)), .int (iI (q 0)), .ref (A (i + 5)), .ref (A (i + 6)), .ref (A (i + 7)), .ref (A (i + 8)), .int (iI (q 1)), .ref (A (i + 9)), .ref (A (i + 10)), .ref (A (i + 11)), .int (iI (q 2)), .ref (A (i + 12)), .ref (A (i + 13)), .int (iI (q 3)), .ref (A (i + 14)), .ref (A (i + 15)), .ref (A (i + 16)), .int (iI (q 4))]) := by rw [hf_220 _ (by omega)]; exact hO
                  have h5 : g_220 (i + 5) = aI E 16 f5 := by rw [hf_220 _ (by omega)]; exact h5
                  have h6 : g_220 (i + 6) = aI E 128 f6 := by rw [hf_220 _ (by omega)]; exact h6
                  have h7 : g_220 (i + 7) = aI E 128 f7 := by rw [hf_220 _ (by omega)]; exact h7
                  have h8 : g_220 (i + 8) = aI E 16 f8 := by rw [hf_220 _ (by omega)]; exact h8
                  have h9 : g_220 (i + 9) = aI E 10 f9 := by rw [hf_220 _ (by omega)]; exact h9
                  have h10 : g_220 (i + 10) = aI E 10 f10 := by rw [hf_220 _ (by omega)]; exact h10
                  refine x_iconst X dX11_few_223 ?_
                  exact x_zret X hr hlk (by decide) hW (⟨by rw [if_pos (by omega)], fun _ => by rw [← hK]; exact ⟨_, hN, v_0, v_1⟩, fun h => absurd (show 0 ≤ z ∧ z ≤ 10 by omega) h, hfr⟩) dX11_few_224
                · obtain ⟨t, ht⟩ : ∃ t, cz = t + 1 + d := ⟨cz - 1 - d, by omega⟩
                  have et : cz - 1 - d = t := by omega
                  obtain ⟨hc1, hc2, hc3, hc4⟩ := hcv t (by omega)
                  obtain ⟨hb1, hb5, hb8, hb9, hbq⟩ := hbv (co t) hc1
                  have hAs : foA (LkM L co) cz (d + 1) = foA (LkM L co) cz d * bE (L (co t)) (fun _ => 1) := by
                    show foA (LkM L co) cz d * bE (L (co (cz - 1 - d))) (fun _ => 1) = _
                    rw [et]
                  have hA1 := foA_le (fun k hk => (hcap0 k hk).1) (d + 1) (by omega)
                  have hA2 := foA_le (fun k hk => (hcap0 k hk).1) d (by omega)
                  have hpc := pow_cap (d := d + 1) (by omega)
                  have hpc2 := pow_cap (d := d) (by omega)
                  have ht8 : bE (L (co t)) (fun _ => 1) ≤ 8000 := (hcap0 t (by omega)).1
                  refine lv_aload_n X.1 X.2.1 dX11_few_52 rfl (lv_at hl 0 rfl) ?_
                  refine x_get (C := RX11) (T := TX11) (N := 21) X hW (by omega) hO rfl lk_0 10 (by decide) lk_2 rfl dX11_few_53 ?_
                  refine lv_iload_n X.1 X.2.1 dX11_few_56 rfl (lv_at hl 2 rfl) ?_
                  refine x_iald X hW (by omega) h9 (v := iI (((co t : Nat) : Int))) t (by omega) (by omega) (by decide) hc3 dX11_few_57 ?_
                  refine lv_istore_n (lv' := [(3, .int (iI (((co t : Nat) : Int)))), (0, .ref (A (i))), (1, .int (iI (z))), (2, .int (iI ((cz : Int) - 1 - (d : Int))))]) X.1 X.2.1 dX11_few_58 rfl hl (by decide) rfl (fun ls hl => ?_)
                  refine lv_iload_n X.1 X.2.1 dX11_few_59 rfl (lv_at hl 2 rfl) ?_
                  refine x_seti (((K : Nat) : Int)) hzK ?_
                  refine lv_istore (lv' := [(4, .int (iI (((K : Nat) : Int)))), (3, .int (iI (((co t : Nat) : Int)))), (0, .ref (A (i))), (1, .int (iI (z))), (2, .int (iI ((cz : Int) - 1 - (d : Int))))]) X.1 X.2.1 dX11_few_60 hl (by decide) rfl (fun ls hl => ?_)
                  have loop_62 : ∀ (fuel : Nat) (m : Nat) (N3 : Nat → Int) (g3 : Nat → va_E) (H : Heap) (locs : List Loc) (ls : Array Slot), (m) < fuel → (m ≤ K) → (MN E A g3 i N3) → (∀ y, y ≤ K → N3 (10 + y) = ((if m < y then chN (LkM L co) cz K (d + 1) y else chN (LkM L co) cz K d y : Nat) : Int)) → (N3 30 = ((foA (LkM L co) cz d : Nat) : Int)) → (∀ j, j ≠ i + 1 → g3 j = g j) → wH E (wF A n sz) A n s_ g3 H locs → lv_has ls 7 [(0, .ref (A (i))), (1, .int (iI (z))), (2, .int (iI ((cz : Int) - 1 - (d : Int)))), (3, .int (iI (((co t : Nat) : Int)))), (4, .int (iI (((m : Nat) : Int))))] → W p_ l e_ ({ frames := 7, cells := 0, slots := 0, locals := 260 } : Room) s_ m_ [.ref (A (i)), .int (iI (z))].toArray below meth c_ H locs 0 0 (MQ below (va_Qi (fun r g' => r = iI (if 0 ≤ z ∧ z ≤ 10 then 1 else 0) ∧ (0 ≤ z ∧ z ≤ 10 → MR E A g' i (rdT ((chN (LkM L co) cz z.toNat cz z.toNat : Nat) : Int) (foA (LkM L co) cz cz)) (rdB ((chN (LkM L co) cz z.toNat cz z.toNat : Nat) : Int) (foA (LkM L co) cz cz))) ∧ (¬ (0 ≤ z ∧ z ≤ 10) → g' = g) ∧ ∀ j, j ≠ i + 1 → g' j = g j) (wAt E A n) (wF A n sz)) [.ref (A (i)), .int (iI (z))].toArray s_ 0 0 (wF A n sz)) (F0 m_ 62 ls []) := by
                    intro fuel
                    induction fuel with
                    | zero => intro m N3 g3 H locs ls hm; exact absurd hm (Nat.not_lt_zero _)
                    | succ fuel ih_62 =>
                      intro m N3 g3 H locs ls hm hm hN hT2 v_30 hfr hW hl
                      have hO : g3 i = .inr (11, [.ref (A (i + 1)), .ref (A (i + 2)), .ref (A (i + 3)), .ref (A (i + 4)), .int (iI (q 0)), .ref (A (i + 5)), .ref (A (i + 6)), .ref (A (i + 7)), .ref (A (i + 8)), .int (iI (q 1)), .ref (A (i + 9)), .ref (A (i + 10)), .ref (A (i + 11)), .int (iI (q 2)), .ref (A (i + 12)), .ref (A (i + 13)), .int (iI (q 3)), .ref (A (i + 14)), .ref (A (i + 15)), .ref (A (i + 16)), .int (iI (q 4))]) := (hfr _ (by omega)).trans hOg
                      have h5 : g3 (i + 5) = aI E 16 f5 := (hfr _ (by omega)).trans h5o
                      have h6 : g3 (i + 6) = aI E 128 f6 := (hfr _ (by omega)).trans h6o
                      have h7 : g3 (i + 7) = aI E 128 f7 := (hfr _ (by omega)).trans h7o
                      have h8 : g3 (i + 8) = aI E 16 f8 := (hfr _ (by omega)).trans h8o
                      have h9 : g3 (i + 9) = aI E 10 f9 := (hfr _ (by omega)).trans h9o
                      have h10 : g3 (i + 10) = aI E 10 f10 := (hfr _ (by omega)).trans h10o
                      refine lv_iload X.1 X.2.1 dX11_few_62 (lv_at hl 4 rfl) ?_
                      refine x_if_le (tgt := 194) X ⟨by omega, by omega⟩ dX11_few_64 (by decide) (fun b_64 => ?_) (fun b_64 => ?_)
                      · have hT3 : ∀ y, y ≤ K → N3 (10 + y) = ((chN (LkM L co) cz K (d + 1) y : Nat) : Int) := fun y hy => by
                          rw [hT2 y hy]
                          by_cases h9 : m < y
                          · rw [if_pos h9]
                          · rw [if_neg h9, chN_out (d := d) (by omega), chN_out (d := d + 1) (by omega)]
                        refine lv_aload_n X.1 X.2.1 dX11_few_194 rfl (lv_at hl 0 rfl) ?_
                        refine x_bipush X (by decide) dX11_few_195 ?_
                        refine lv_aload_n X.1 X.2.1 dX11_few_197 rfl (lv_at hl 0 rfl) ?_
                        refine x_get (C := RX11) (T := TX11) (N := 21) X hW (by omega) hO rfl lk_0 8 (by decide) lk_3 rfl dX11_few_198 ?_
                        refine lv_iload_n X.1 X.2.1 dX11_few_201 rfl (lv_at hl 3 rfl) ?_
                        refine x_iald X hW (by omega) h8 (v := iI (((bE (L (co t)) (fun _ => 1) : Nat) : Int))) (co t) (by omega) (by omega) (by decide) hb8 dX11_few_202 ?_
                        refine x_i2l X ⟨by omega, by omega⟩ dX11_few_203 ?_
                        refine x_cv (x_runV (k := 2) (As := [.int (iI (30)), .long (lI (((bE (L (co t)) (fun _ => 1) : Nat) : Int)))]) (rest := []) X hW (c_X11_times l E A n _ g3 i (30) q N3 (((bE (L (co t)) (fun _ => 1) : Nat) : Int)) hi hO (by omega) hN (by omega) (by omega) (by rw [v_30, ← Int.natCast_mul, ← hAs]; omega) (by rw [v_30, ← Int.natCast_mul, ← hAs]; omega)) (by omega) hO rfl gX11_few_X11_times rfl rfl rfl (by decide +kernel) ⟨by decide, by decide⟩ rfl hl.1 rfl (Nat.le_of_ble_eq_true rfl) dX11_few_204 ⟨Nat.zero_le _, Nat.zero_le _⟩) hW (fun g_204 H locs hp_204 hW => ?_)
                        obtain ⟨hN, hf_204⟩ := hp_204
                        obtain ⟨N_204, hN_204⟩ : ∃ N9 : Nat → Int, N9 = va_up N3 30 (N3 30 * (((bE (L (co t)) (fun _ => 1) : Nat) : Int))) := ⟨_, rfl⟩
                        rw [← hN_204] at hN
                        have hO : g_204 i = .inr (11, [.ref (A (i + 1)), .ref (A (i + 2)), .ref (A (i + 3)), .ref (A (i + 4)), .int (iI (q 0)), .ref (A (i + 5)), .ref (A (i + 6)), .ref (A (i + 7)), .ref (A (i + 8)), .int (iI (q 1)), .ref (A (i + 9)), .ref (A (i + 10)), .ref (A (i + 11)), .int (iI (q 2)), .ref (A (i + 12)), .ref (A (i + 13)), .int (iI (q 3)), .ref (A (i + 14)), .ref (A (i + 15)), .ref (A (i + 16)), .int (iI (q 4))]) := by rw [hf_204 _ (by omega)]; exact hO
                        have h5 : g_204 (i + 5) = aI E 16 f5 := by rw [hf_204 _ (by omega)]; exact h5
                        have h6 : g_204 (i + 6) = aI E 128 f6 := by rw [hf_204 _ (by omega)]; exact h6
                        have h7 : g_204 (i + 7) = aI E 128 f7 := by rw [hf_204 _ (by omega)]; exact h7
                        have h8 : g_204 (i + 8) = aI E 16 f8 := by rw [hf_204 _ (by omega)]; exact h8
                        have h9 : g_204 (i + 9) = aI E 10 f9 := by rw [hf_204 _ (by omega)]; exact h9
                        have h10 : g_204 (i + 10) = aI E 10 f10 := by rw [hf_204 _ (by omega)]; exact h10
                        have v_30 : N_204 30 = ((foA (LkM L co) cz (d + 1) : Nat) : Int) := by rw [hN_204, va_up_self, v_30, ← Int.natCast_mul, ← hAs]
                        have hfr : ∀ j, j ≠ i + 1 → g_204 j = g j := fun j hj => (hf_204 j hj).trans (hfr j hj)
                        refine lv_iinc (v := iI ((cz : Int) - 1 - ((d + 1 : Nat) : Int))) (lv' := [(2, .int (iI ((cz : Int) - 1 - ((d + 1 : Nat) : Int)))), (0, .ref (A (i))), (1, .int (iI (z))), (3, .int (iI (((co t : Nat) : Int)))), (4, .int (iI (((m : Nat) : Int))))]) X.1 X.2.1 dX11_few_207 hl (k := 2) rfl (by rw [show (Int32.ofInt (-1)) = iI (-1) from rfl, iI_add]; congr 1; omega) (by decide) rfl (fun ls hl => ?_)
                        refine lv_goto (tgt := 48) X.1 X.2.1 dX11_few_210 (by decide) ?_
                        exact ih_48 (d + 1) N_204 g_204 _ _ _ (by omega) (by omega) hN (fun y hy => by rw [hN_204, va_up_ne _ _ (by omega)]; exact hT3 y hy) v_30 hfr hW (lv_sub hl [1, 2, 0] rfl)
                      · obtain ⟨w, hw⟩ : ∃ w, m = w + 1 := ⟨m - 1, by omega⟩
                        have v_10___w : N3 (10 + w) = ((chN (LkM L co) cz K d w : Nat) : Int) := by rw [hT2 w (by omega), if_neg (by omega)]
                        have v_10___m : N3 (10 + m) = ((chN (LkM L co) cz K d m : Nat) : Int) := by rw [hT2 m (by omega), if_neg (by omega)]
                        have hMs : chN (LkM L co) cz K (d + 1) m = bMax (L (co t)) (chN (LkM L co) cz K d w) (foA (LkM L co) cz d) (chN (LkM L co) cz K d m) := by
                          rw [chN_in ⟨by omega, hm⟩, et, show m - 1 = w from by omega]; rfl
                        have hM1 := chN_cap (K := K) hok0 (d + 1) (by omega) m
                        have hM2 := chN_cap (K := K) hok0 d (by omega) w
                        have hotJ : ∀ x, (x ≠ 2 ∧ x ≠ 31) → N3 x = N3 x := fun _ _ => rfl
                        have w_30 := v_30
                        have w_10w := v_10___w
                        have w_10m := v_10___m
                        refine lv_aload_n X.1 X.2.1 dX11_few_67 rfl (lv_at hl 0 rfl) ?_
                        refine x_bipush X (by decide) dX11_few_68 ?_
                        refine x_lconst X 0 (by decide) dX11_few_70 ?_
                        refine x_cv (x_runV (k := 2) (As := [.int (iI (31)), .long (lI (0))]) (rest := []) X hW (c_X11_set l E A n _ g3 i (31) q N3 (0) hi hO (by omega) hN (by decide) (by decide)) (by omega) hO rfl gX11_few_X11_set rfl rfl rfl (by decide +kernel) ⟨by decide, by decide⟩ rfl hl.1 rfl (Nat.le_of_ble_eq_true rfl) dX11_few_71 ⟨Nat.zero_le _, Nat.zero_le _⟩) hW (fun g_71 H locs hp_71 hW => ?_)
                        obtain ⟨hN, hf_71⟩ := hp_71
                        obtain ⟨N_71, hN_71⟩ : ∃ N9 : Nat → Int, N9 = va_up N3 31 (0) := ⟨_, rfl⟩
                        rw [← hN_71] at hN
                        have hO : g_71 i = .inr (11, [.ref (A (i + 1)), .ref (A (i + 2)), .ref (A (i + 3)), .ref (A (i + 4)), .int (iI (q 0)), .ref (A (i + 5)), .ref (A (i + 6)), .ref (A (i + 7)), .ref (A (i + 8)), .int (iI (q 1)), .ref (A (i + 9)), .ref (A (i + 10)), .ref (A (i + 11)), .int (iI (q 2)), .ref (A (i + 12)), .ref (A (i + 13)), .int (iI (q 3)), .ref (A (i + 14)), .ref (A (i + 15)), .ref (A (i + 16)), .int (iI (q 4))]) := by rw [hf_71 _ (by omega)]; exact hO
                        have h5 : g_71 (i + 5) = aI E 16 f5 := by rw [hf_71 _ (by omega)]; exact h5
                        have h6 : g_71 (i + 6) = aI E 128 f6 := by rw [hf_71 _ (by omega)]; exact h6
                        have h7 : g_71 (i + 7) = aI E 128 f7 := by rw [hf_71 _ (by omega)]; exact h7
                        have h8 : g_71 (i + 8) = aI E 16 f8 := by rw [hf_71 _ (by omega)]; exact h8
                        have h9 : g_71 (i + 9) = aI E 10 f9 := by rw [hf_71 _ (by omega)]; exact h9
                        have h10 : g_71 (i + 10) = aI E 10 f10 := by rw [hf_71 _ (by omega)]; exact h10
                        have v_31 : N_71 31 = 0 := by rw [hN_71, va_up_self]
                        have v_30 : N_71 30 = ((foA (LkM L co) cz d : Nat) : Int) := by rw [hN_71, va_up_ne _ _ (by omega)]; exact v_30
                        have v_10___w : N_71 (10 + w) = ((chN (LkM L co) cz K d w : Nat) : Int) := by rw [hN_71, va_up_ne _ _ (by omega)]; exact v_10___w
                        have v_10___m : N_71 (10 + m) = ((chN (LkM L co) cz K d m : Nat) : Int) := by rw [hN_71, va_up_ne _ _ (by omega)]; exact v_10___m
                        have hotJ : ∀ x, (x ≠ 2 ∧ x ≠ 31) → N_71 x = N3 x := fun x hx => (congrFun hN_71 x).trans ((va_up_ne _ _ (by omega)).trans (hotJ x hx))
                        have hfr : ∀ j, j ≠ i + 1 → g_71 j = g j := fun j hj => (hf_71 j hj).trans (hfr j hj)
                        refine x_bipush X (by decide) dX11_few_74 ?_
                        refine lv_iload_n X.1 X.2.1 dX11_few_76 rfl (lv_at hl 3 rfl) ?_
                        refine x_imul X dX11_few_77 ?_
                        refine x_seti (((8 * co t + 0 : Nat) : Int)) (by omega) ?_
                        refine lv_istore (lv' := [(5, .int (iI (((8 * co t + 0 : Nat) : Int)))), (0, .ref (A (i))), (1, .int (iI (z))), (2, .int (iI ((cz : Int) - 1 - (d : Int)))), (3, .int (iI (((co t : Nat) : Int)))), (4, .int (iI (((m : Nat) : Int))))]) X.1 X.2.1 dX11_few_78 hl (by decide) rfl (fun ls hl => ?_)
                        have loop_80 : ∀ (fuel : Nat) (u : Nat) (N4 : Nat → Int) (g4 : Nat → va_E) (H : Heap) (locs : List Loc) (ls : Array Slot), ((L (co t)).length - u) < fuel → (u ≤ (L (co t)).length) → (MN E A g4 i N4) → (N4 31 = ((bMax ((L (co t)).take u) (chN (LkM L co) cz K d w) (foA (LkM L co) cz d) (chN (LkM L co) cz K d m) : Nat) : Int)) → (∀ x, (x ≠ 2 ∧ x ≠ 31) → N4 x = N3 x) → (∀ j, j ≠ i + 1 → g4 j = g j) → wH E (wF A n sz) A n s_ g4 H locs → lv_has ls 7 [(0, .ref (A (i))), (1, .int (iI (z))), (2, .int (iI ((cz : Int) - 1 - (d : Int)))), (3, .int (iI (((co t : Nat) : Int)))), (4, .int (iI (((m : Nat) : Int)))), (5, .int (iI (((8 * co t + u : Nat) : Int))))] → W p_ l e_ ({ frames := 7, cells := 0, slots := 0, locals := 260 } : Room) s_ m_ [.ref (A (i)), .int (iI (z))].toArray below meth c_ H locs 0 0 (MQ below (va_Qi (fun r g' => r = iI (if 0 ≤ z ∧ z ≤ 10 then 1 else 0) ∧ (0 ≤ z ∧ z ≤ 10 → MR E A g' i (rdT ((chN (LkM L co) cz z.toNat cz z.toNat : Nat) : Int) (foA (LkM L co) cz cz)) (rdB ((chN (LkM L co) cz z.toNat cz z.toNat : Nat) : Int) (foA (LkM L co) cz cz))) ∧ (¬ (0 ≤ z ∧ z ≤ 10) → g' = g) ∧ ∀ j, j ≠ i + 1 → g' j = g j) (wAt E A n) (wF A n sz)) [.ref (A (i)), .int (iI (z))].toArray s_ 0 0 (wF A n sz)) (F0 m_ 80 ls []) := by
                          intro fuel
                          induction fuel with
                          | zero => intro u N4 g4 H locs ls hm; exact absurd hm (Nat.not_lt_zero _)
                          | succ fuel ih_80 =>
                            intro u N4 g4 H locs ls hm hu hN v_31 hotJ hfr hW hl
                            have hO : g4 i = .inr (11, [.ref (A (i + 1)), .ref (A (i + 2)), .ref (A (i + 3)), .ref (A (i + 4)), .int (iI (q 0)), .ref (A (i + 5)), .ref (A (i + 6)), .ref (A (i + 7)), .ref (A (i + 8)), .int (iI (q 1)), .ref (A (i + 9)), .ref (A (i + 10)), .ref (A (i + 11)), .int (iI (q 2)), .ref (A (i + 12)), .ref (A (i + 13)), .int (iI (q 3)), .ref (A (i + 14)), .ref (A (i + 15)), .ref (A (i + 16)), .int (iI (q 4))]) := (hfr _ (by omega)).trans hOg
                            have h5 : g4 (i + 5) = aI E 16 f5 := (hfr _ (by omega)).trans h5o
                            have h6 : g4 (i + 6) = aI E 128 f6 := (hfr _ (by omega)).trans h6o
                            have h7 : g4 (i + 7) = aI E 128 f7 := (hfr _ (by omega)).trans h7o
                            have h8 : g4 (i + 8) = aI E 16 f8 := (hfr _ (by omega)).trans h8o
                            have h9 : g4 (i + 9) = aI E 10 f9 := (hfr _ (by omega)).trans h9o
                            have h10 : g4 (i + 10) = aI E 10 f10 := (hfr _ (by omega)).trans h10o
                            have v_30 := (hotJ 30 (by omega)).trans w_30
                            have v_10___w := (hotJ (10 + w) (by omega)).trans w_10w
                            have v_10___m := (hotJ (10 + m) (by omega)).trans w_10m
                            refine lv_iload X.1 X.2.1 dX11_few_80 (lv_at hl 5 rfl) ?_
                            refine x_bipush X (by decide) dX11_few_82 ?_
                            refine lv_iload_n X.1 X.2.1 dX11_few_84 rfl (lv_at hl 3 rfl) ?_
                            refine x_imul X dX11_few_85 ?_
                            refine lv_aload_n X.1 X.2.1 dX11_few_86 rfl (lv_at hl 0 rfl) ?_
                            refine x_get (C := RX11) (T := TX11) (N := 21) X hW (by omega) hO rfl lk_0 5 (by decide) lk_4 rfl dX11_few_87 ?_
                            refine lv_iload_n X.1 X.2.1 dX11_few_90 rfl (lv_at hl 3 rfl) ?_
                            refine x_iald X hW (by omega) h5 (v := iI ((((L (co t)).length : Nat) : Int))) (co t) (by omega) (by omega) (by decide) hb5 dX11_few_91 ?_
                            refine x_iadd X dX11_few_92 ?_
                            refine x_icmp_ge (tgt := 177) X ⟨by omega, by omega⟩ ⟨by omega, by omega⟩ dX11_few_93 (by decide) (fun b_93 => ?_) (fun b_93 => ?_)
                            · have v_31 : N4 31 = ((chN (LkM L co) cz K (d + 1) m : Nat) : Int) := by rw [v_31, hMs, show u = (L (co t)).length from by omega, List.take_length]
                              have hotK : ∀ x, (x ≠ 2 ∧ x ≠ 31 ∧ x ≠ 10 + m) → N4 x = N3 x := fun x hx => hotJ x (by omega)
                              refine lv_aload_n X.1 X.2.1 dX11_few_177 rfl (lv_at hl 0 rfl) ?_
                              refine x_bipush X (by decide) dX11_few_178 ?_
                              refine lv_iload X.1 X.2.1 dX11_few_180 (lv_at hl 4 rfl) ?_
                              refine x_iadd X dX11_few_182 ?_
                              refine x_seti (((10 + m : Nat) : Int)) (by omega) ?_
                              refine x_bipush X (by decide) dX11_few_183 ?_
                              refine x_cv (x_runV (k := 2) (As := [.int (iI (((10 + m : Nat) : Int))), .int (iI (31))]) (rest := []) X hW (c_X11_copy l E A n _ g4 i (10 + m) (31) q N4 hi hO (by omega) (by omega) (by omega) hN) (by omega) hO rfl gX11_few_X11_copy rfl rfl rfl (by decide +kernel) ⟨by decide, by decide⟩ rfl hl.1 rfl (Nat.le_of_ble_eq_true rfl) dX11_few_185 ⟨Nat.zero_le _, Nat.zero_le _⟩) hW (fun g_185 H locs hp_185 hW => ?_)
                              obtain ⟨hN, hf_185⟩ := hp_185
                              obtain ⟨N_185, hN_185⟩ : ∃ N9 : Nat → Int, N9 = va_up N4 (10 + m) (N4 (31)) := ⟨_, rfl⟩
                              rw [← hN_185] at hN
                              have hO : g_185 i = .inr (11, [.ref (A (i + 1)), .ref (A (i + 2)), .ref (A (i + 3)), .ref (A (i + 4)), .int (iI (q 0)), .ref (A (i + 5)), .ref (A (i + 6)), .ref (A (i + 7)), .ref (A (i + 8)), .int (iI (q 1)), .ref (A (i + 9)), .ref (A (i + 10)), .ref (A (i + 11)), .int (iI (q 2)), .ref (A (i + 12)), .ref (A (i + 13)), .int (iI (q 3)), .ref (A (i + 14)), .ref (A (i + 15)), .ref (A (i + 16)), .int (iI (q 4))]) := by rw [hf_185 _ (by omega)]; exact hO
                              have h5 : g_185 (i + 5) = aI E 16 f5 := by rw [hf_185 _ (by omega)]; exact h5
                              have h6 : g_185 (i + 6) = aI E 128 f6 := by rw [hf_185 _ (by omega)]; exact h6
                              have h7 : g_185 (i + 7) = aI E 128 f7 := by rw [hf_185 _ (by omega)]; exact h7
                              have h8 : g_185 (i + 8) = aI E 16 f8 := by rw [hf_185 _ (by omega)]; exact h8
                              have h9 : g_185 (i + 9) = aI E 10 f9 := by rw [hf_185 _ (by omega)]; exact h9
                              have h10 : g_185 (i + 10) = aI E 10 f10 := by rw [hf_185 _ (by omega)]; exact h10
                              have v_10___m : N_185 (10 + m) = ((chN (LkM L co) cz K (d + 1) m : Nat) : Int) := by rw [hN_185, va_up_self, v_31]
                              have v_31 : N_185 31 = ((chN (LkM L co) cz K (d + 1) m : Nat) : Int) := by rw [hN_185, va_up_ne _ _ (by omega)]; exact v_31
                              have v_30 : N_185 30 = ((foA (LkM L co) cz d : Nat) : Int) := by rw [hN_185, va_up_ne _ _ (by omega)]; exact v_30
                              have hotK : ∀ x, (x ≠ 2 ∧ x ≠ 31 ∧ x ≠ 10 + m) → N_185 x = N3 x := fun x hx => (congrFun hN_185 x).trans ((va_up_ne _ _ (by omega)).trans (hotK x hx))
                              have hfr : ∀ j, j ≠ i + 1 → g_185 j = g j := fun j hj => (hf_185 j hj).trans (hfr j hj)
                              refine lv_iinc (v := iI (((w : Nat) : Int))) (lv' := [(4, .int (iI (((w : Nat) : Int)))), (0, .ref (A (i))), (1, .int (iI (z))), (2, .int (iI ((cz : Int) - 1 - (d : Int)))), (3, .int (iI (((co t : Nat) : Int)))), (5, .int (iI (((8 * co t + u : Nat) : Int))))]) X.1 X.2.1 dX11_few_188 hl (k := 4) rfl (by rw [show (Int32.ofInt (-1)) = iI (-1) from rfl, iI_add]; first | rfl | (congr 1; omega)) (by decide) rfl (fun ls hl => ?_)
                              refine lv_goto (tgt := 62) X.1 X.2.1 dX11_few_191 (by decide) ?_
                              exact ih_62 w N_185 g_185 _ _ _ (by omega) (by omega) hN (fun y hy => if ey : y = m then (by rw [ey, if_pos (by omega)]; exact v_10___m) else (by rw [hotK _ (by omega), hT2 y hy]; exact congrArg (fun x : Nat => (x : Int)) (ifc (show (m < y) ↔ (w < y) by omega)))) v_30 hfr hW (lv_sub hl [1, 2, 3, 4, 0] rfl)
                            · have hu2 : u < (L (co t)).length := by omega
                              obtain ⟨q6, q7, q8, q9⟩ := hbq u hu2
                              have hax : foA (LkM L co) cz d * ((((L (co t))).getD u (0, 0)).1 : Nat) ≤ 10 ^ 53 * 1000 := Nat.mul_le_mul (by omega) q8
                              have hgl := bMax_take (L (co t)) (u := u + 1) (by omega) (chN (LkM L co) cz K d w) (foA (LkM L co) cz d) (chN (LkM L co) cz K d m)
                              refine lv_aload_n X.1 X.2.1 dX11_few_96 rfl (lv_at hl 0 rfl) ?_
                              refine x_iconst X dX11_few_97 ?_
                              refine x_bipush X (by decide) dX11_few_98 ?_
                              refine lv_iload X.1 X.2.1 dX11_few_100 (lv_at hl 4 rfl) ?_
                              refine x_iadd X dX11_few_102 ?_
                              refine x_iconst X dX11_few_103 ?_
                              refine x_isub X dX11_few_104 ?_
                              refine x_seti (((10 + w : Nat) : Int)) (by omega) ?_
                              refine x_cv (x_runV (k := 2) (As := [.int (iI (2)), .int (iI (((10 + w : Nat) : Int)))]) (rest := []) X hW (c_X11_copy l E A n _ g4 i (2) (10 + w) q N4 hi hO (by omega) (by omega) (by omega) hN) (by omega) hO rfl gX11_few_X11_copy rfl rfl rfl (by decide +kernel) ⟨by decide, by decide⟩ rfl hl.1 rfl (Nat.le_of_ble_eq_true rfl) dX11_few_105 ⟨Nat.zero_le _, Nat.zero_le _⟩) hW (fun g_105 H locs hp_105 hW => ?_)
                              obtain ⟨hN, hf_105⟩ := hp_105
                              obtain ⟨N_105, hN_105⟩ : ∃ N9 : Nat → Int, N9 = va_up N4 2 (N4 (10 + w)) := ⟨_, rfl⟩
                              rw [← hN_105] at hN
                              have hO : g_105 i = .inr (11, [.ref (A (i + 1)), .ref (A (i + 2)), .ref (A (i + 3)), .ref (A (i + 4)), .int (iI (q 0)), .ref (A (i + 5)), .ref (A (i + 6)), .ref (A (i + 7)), .ref (A (i + 8)), .int (iI (q 1)), .ref (A (i + 9)), .ref (A (i + 10)), .ref (A (i + 11)), .int (iI (q 2)), .ref (A (i + 12)), .ref (A (i + 13)), .int (iI (q 3)), .ref (A (i + 14)), .ref (A (i + 15)), .ref (A (i + 16)), .int (iI (q 4))]) := by rw [hf_105 _ (by omega)]; exact hO
                              have h5 : g_105 (i + 5) = aI E 16 f5 := by rw [hf_105 _ (by omega)]; exact h5
                              have h6 : g_105 (i + 6) = aI E 128 f6 := by rw [hf_105 _ (by omega)]; exact h6
                              have h7 : g_105 (i + 7) = aI E 128 f7 := by rw [hf_105 _ (by omega)]; exact h7
                              have h8 : g_105 (i + 8) = aI E 16 f8 := by rw [hf_105 _ (by omega)]; exact h8
                              have h9 : g_105 (i + 9) = aI E 10 f9 := by rw [hf_105 _ (by omega)]; exact h9
                              have h10 : g_105 (i + 10) = aI E 10 f10 := by rw [hf_105 _ (by omega)]; exact h10
                              have v_2 : N_105 2 = ((chN (LkM L co) cz K d w : Nat) : Int) := by rw [hN_105, va_up_self, v_10___w]
                              have v_31 : N_105 31 = ((bMax ((L (co t)).take u) (chN (LkM L co) cz K d w) (foA (LkM L co) cz d) (chN (LkM L co) cz K d m) : Nat) : Int) := by rw [hN_105, va_up_ne _ _ (by omega)]; exact v_31
                              have v_30 : N_105 30 = ((foA (LkM L co) cz d : Nat) : Int) := by rw [hN_105, va_up_ne _ _ (by omega)]; exact v_30
                              have v_10___w : N_105 (10 + w) = ((chN (LkM L co) cz K d w : Nat) : Int) := by rw [hN_105, va_up_ne _ _ (by omega)]; exact v_10___w
                              have v_10___m : N_105 (10 + m) = ((chN (LkM L co) cz K d m : Nat) : Int) := by rw [hN_105, va_up_ne _ _ (by omega)]; exact v_10___m
                              have hotJ : ∀ x, (x ≠ 2 ∧ x ≠ 31) → N_105 x = N3 x := fun x hx => (congrFun hN_105 x).trans ((va_up_ne _ _ (by omega)).trans (hotJ x hx))
                              have hfr : ∀ j, j ≠ i + 1 → g_105 j = g j := fun j hj => (hf_105 j hj).trans (hfr j hj)
                              refine lv_aload_n X.1 X.2.1 dX11_few_108 rfl (lv_at hl 0 rfl) ?_
                              refine x_iconst X dX11_few_109 ?_
                              refine x_bipush X (by decide) dX11_few_110 ?_
                              refine lv_aload_n X.1 X.2.1 dX11_few_112 rfl (lv_at hl 0 rfl) ?_
                              refine x_get (C := RX11) (T := TX11) (N := 21) X hW (by omega) hO rfl lk_0 6 (by decide) lk_5 rfl dX11_few_113 ?_
                              refine lv_iload X.1 X.2.1 dX11_few_116 (lv_at hl 5 rfl) ?_
                              refine x_iald X hW (by omega) h6 (v := iI (((((((L (co t))).getD u (0, 0)).1 : Nat) : Nat) : Int))) (8 * co t + u) (by omega) (by omega) (by decide) q6 dX11_few_118 ?_
                              refine x_i2l X ⟨by omega, by omega⟩ dX11_few_119 ?_
                              refine x_cv (x_runV (k := 3) (As := [.int (iI (2)), .int (iI (30)), .long (lI (((((((L (co t))).getD u (0, 0)).1 : Nat) : Nat) : Int)))]) (rest := []) X hW (c_X11_more l E A n _ g_105 i (2) (30) q N_105 (((((((L (co t))).getD u (0, 0)).1 : Nat) : Nat) : Int)) hi hO (by omega) (by omega) (by omega) hN (by omega) (by omega) (by rw [v_2, v_30, ← Int.natCast_mul, ← Int.natCast_add]; omega) (by rw [v_2, v_30, ← Int.natCast_mul, ← Int.natCast_add]; omega)) (by omega) hO rfl gX11_few_X11_more rfl rfl rfl (by decide +kernel) ⟨by decide, by decide⟩ rfl hl.1 rfl (Nat.le_of_ble_eq_true rfl) dX11_few_120 ⟨Nat.zero_le _, Nat.zero_le _⟩) hW (fun g_120 H locs hp_120 hW => ?_)
                              obtain ⟨hN, hf_120⟩ := hp_120
                              obtain ⟨N_120, hN_120⟩ : ∃ N9 : Nat → Int, N9 = va_up N_105 2 (N_105 2 + N_105 30 * (((((((L (co t))).getD u (0, 0)).1 : Nat) : Nat) : Int))) := ⟨_, rfl⟩
                              rw [← hN_120] at hN
                              have hO : g_120 i = .inr (11, [.ref (A (i + 1)), .ref (A (i + 2)), .ref (A (i + 3)), .ref (A (i + 4)), .int (iI (q 0)), .ref (A (i + 5)), .ref (A (i + 6)), .ref (A (i + 7)), .ref (A (i + 8)), .int (iI (q 1)), .ref (A (i + 9)), .ref (A (i + 10)), .ref (A (i + 11)), .int (iI (q 2)), .ref (A (i + 12)), .ref (A (i + 13)), .int (iI (q 3)), .ref (A (i + 14)), .ref (A (i + 15)), .ref (A (i + 16)), .int (iI (q 4))]) := by rw [hf_120 _ (by omega)]; exact hO
                              have h5 : g_120 (i + 5) = aI E 16 f5 := by rw [hf_120 _ (by omega)]; exact h5
                              have h6 : g_120 (i + 6) = aI E 128 f6 := by rw [hf_120 _ (by omega)]; exact h6
                              have h7 : g_120 (i + 7) = aI E 128 f7 := by rw [hf_120 _ (by omega)]; exact h7
                              have h8 : g_120 (i + 8) = aI E 16 f8 := by rw [hf_120 _ (by omega)]; exact h8
                              have h9 : g_120 (i + 9) = aI E 10 f9 := by rw [hf_120 _ (by omega)]; exact h9
                              have h10 : g_120 (i + 10) = aI E 10 f10 := by rw [hf_120 _ (by omega)]; exact h10
                              have v_2 : N_120 2 = ((chN (LkM L co) cz K d w + foA (LkM L co) cz d * ((((L (co t))).getD u (0, 0)).1 : Nat) : Nat) : Int) := by rw [hN_120, va_up_self, v_2, v_30, ← Int.natCast_mul, ← Int.natCast_add]
                              have v_31 : N_120 31 = ((bMax ((L (co t)).take u) (chN (LkM L co) cz K d w) (foA (LkM L co) cz d) (chN (LkM L co) cz K d m) : Nat) : Int) := by rw [hN_120, va_up_ne _ _ (by omega)]; exact v_31
                              have v_30 : N_120 30 = ((foA (LkM L co) cz d : Nat) : Int) := by rw [hN_120, va_up_ne _ _ (by omega)]; exact v_30
                              have v_10___w : N_120 (10 + w) = ((chN (LkM L co) cz K d w : Nat) : Int) := by rw [hN_120, va_up_ne _ _ (by omega)]; exact v_10___w
                              have v_10___m : N_120 (10 + m) = ((chN (LkM L co) cz K d m : Nat) : Int) := by rw [hN_120, va_up_ne _ _ (by omega)]; exact v_10___m
                              have hotJ : ∀ x, (x ≠ 2 ∧ x ≠ 31) → N_120 x = N3 x := fun x hx => (congrFun hN_120 x).trans ((va_up_ne _ _ (by omega)).trans (hotJ x hx))
                              have hfr : ∀ j, j ≠ i + 1 → g_120 j = g j := fun j hj => (hf_120 j hj).trans (hfr j hj)
                              refine lv_aload_n X.1 X.2.1 dX11_few_123 rfl (lv_at hl 0 rfl) ?_
                              refine x_iconst X dX11_few_124 ?_
                              refine x_bipush X (by decide) dX11_few_125 ?_
                              refine lv_iload X.1 X.2.1 dX11_few_127 (lv_at hl 4 rfl) ?_
                              refine x_iadd X dX11_few_129 ?_
                              refine x_seti (((10 + m : Nat) : Int)) (by omega) ?_
                              refine x_ci (x_runV (k := 2) (As := [.int (iI (2)), .int (iI (((10 + m : Nat) : Int)))]) (rest := []) X hW (c_X11_compared l E A n _ g_120 i (2) (10 + m) q N_120 hi hO (by omega) (by omega) hN) (by omega) hO rfl gX11_few_X11_compared rfl rfl rfl (by decide +kernel) ⟨by decide, by decide⟩ rfl hl.1 rfl (Nat.le_of_ble_eq_true rfl) dX11_few_130 ⟨Nat.zero_le _, Nat.zero_le _⟩) hW (fun r_130 g_130 H locs hp_130 hW => ?_)
                              obtain ⟨hr_130, he_130⟩ := hp_130
                              rw [he_130] at hW
                              rw [v_2, v_10___m] at hr_130
                              subst hr_130
                              refine x_if_le (tgt := 140) X (cmp_rng _ _) dX11_few_133 (by decide) (fun b_133 => ?_) (fun b_133 => ?_)
                              · have hgs := mx_no hu2 (cmp_le b_133)
                                refine x_iconst X dX11_few_140 ?_
                                refine lv_istore (lv' := [(6, .int (iI (0))), (0, .ref (A (i))), (1, .int (iI (z))), (2, .int (iI ((cz : Int) - 1 - (d : Int)))), (3, .int (iI (((co t : Nat) : Int)))), (4, .int (iI (((m : Nat) : Int)))), (5, .int (iI (((8 * co t + u : Nat) : Int))))]) X.1 X.2.1 dX11_few_141 hl (by decide) rfl (fun ls hl => ?_)
                                refine lv_aload_n X.1 X.2.1 dX11_few_143 rfl (lv_at hl 1 rfl) ?_
                                refine x_bipush X (by decide) dX11_few_144 ?_
                                refine lv_iload X.1 X.2.1 dX11_few_146 (lv_at hl 0 rfl) ?_
                                refine x_if_eq (tgt := 155) X ⟨by decide, by decide⟩ dX11_few_148 (by decide) (fun b_148 => ?_) (fun b_148 => ?_)
                                · refine x_bipush X (by decide) dX11_few_155 ?_
                                  refine lv_iload X.1 X.2.1 dX11_few_157 (lv_at hl 5 rfl) ?_
                                  refine x_iadd X dX11_few_159 ?_
                                  refine x_seti (((10 + m : Nat) : Int)) (by omega) ?_
                                  refine lv_aload_n X.1 X.2.1 dX11_few_160 rfl (lv_at hl 1 rfl) ?_
                                  refine x_get (C := RX11) (T := TX11) (N := 21) X hW (by omega) hO rfl lk_0 7 (by decide) lk_6 rfl dX11_few_161 ?_
                                  refine lv_iload X.1 X.2.1 dX11_few_164 (lv_at hl 6 rfl) ?_
                                  refine x_iald X hW (by omega) h7 (v := iI (((((((L (co t))).getD u (0, 0)).2 : Nat) : Nat) : Int))) (8 * co t + u) (by omega) (by omega) (by decide) q7 dX11_few_166 ?_
                                  refine x_i2l X ⟨by omega, by omega⟩ dX11_few_167 ?_
                                  refine x_cv (x_runV (k := 3) (As := [.int (iI (31)), .int (iI (((10 + m : Nat) : Int))), .long (lI (((((((L (co t))).getD u (0, 0)).2 : Nat) : Nat) : Int)))]) (rest := []) X hW (c_X11_more l E A n _ g_120 i (31) (10 + m) q N_120 (((((((L (co t))).getD u (0, 0)).2 : Nat) : Nat) : Int)) hi hO (by omega) (by omega) (by omega) hN (by omega) (by omega) (by rw [v_31, v_10___m, hgs]; omega) (by rw [v_31, v_10___m, hgs]; omega)) (by omega) hO rfl gX11_few_X11_more rfl rfl rfl (by decide +kernel) ⟨by decide, by decide⟩ rfl hl.1 rfl (Nat.le_of_ble_eq_true rfl) dX11_few_168 ⟨Nat.zero_le _, Nat.zero_le _⟩) hW (fun g_168 H locs hp_168 hW => ?_)
                                  obtain ⟨hN, hf_168⟩ := hp_168
                                  obtain ⟨N_168, hN_168⟩ : ∃ N9 : Nat → Int, N9 = va_up N_120 31 (N_120 31 + N_120 (10 + m) * (((((((L (co t))).getD u (0, 0)).2 : Nat) : Nat) : Int))) := ⟨_, rfl⟩
                                  rw [← hN_168] at hN
                                  have hO : g_168 i = .inr (11, [.ref (A (i + 1)), .ref (A (i + 2)), .ref (A (i + 3)), .ref (A (i + 4)), .int (iI (q 0)), .ref (A (i + 5)), .ref (A (i + 6)), .ref (A (i + 7)), .ref (A (i + 8)), .int (iI (q 1)), .ref (A (i + 9)), .ref (A (i + 10)), .ref (A (i + 11)), .int (iI (q 2)), .ref (A (i + 12)), .ref (A (i + 13)), .int (iI (q 3)), .ref (A (i + 14)), .ref (A (i + 15)), .ref (A (i + 16)), .int (iI (q 4))]) := by rw [hf_168 _ (by omega)]; exact hO
                                  have h5 : g_168 (i + 5) = aI E 16 f5 := by rw [hf_168 _ (by omega)]; exact h5
                                  have h6 : g_168 (i + 6) = aI E 128 f6 := by rw [hf_168 _ (by omega)]; exact h6
                                  have h7 : g_168 (i + 7) = aI E 128 f7 := by rw [hf_168 _ (by omega)]; exact h7
                                  have h8 : g_168 (i + 8) = aI E 16 f8 := by rw [hf_168 _ (by omega)]; exact h8
                                  have h9 : g_168 (i + 9) = aI E 10 f9 := by rw [hf_168 _ (by omega)]; exact h9
                                  have h10 : g_168 (i + 10) = aI E 10 f10 := by rw [hf_168 _ (by omega)]; exact h10
                                  have v_31 : N_168 31 = ((bMax ((L (co t)).take (u + 1)) (chN (LkM L co) cz K d w) (foA (LkM L co) cz d) (chN (LkM L co) cz K d m) : Nat) : Int) := by rw [hN_168, va_up_self, v_31, v_10___m, hgs]
                                  have v_30 : N_168 30 = ((foA (LkM L co) cz d : Nat) : Int) := by rw [hN_168, va_up_ne _ _ (by omega)]; exact v_30
                                  have v_10___w : N_168 (10 + w) = ((chN (LkM L co) cz K d w : Nat) : Int) := by rw [hN_168, va_up_ne _ _ (by omega)]; exact v_10___w
                                  have v_10___m : N_168 (10 + m) = ((chN (LkM L co) cz K d m : Nat) : Int) := by rw [hN_168, va_up_ne _ _ (by omega)]; exact v_10___m
                                  have v_2 : N_168 2 = ((chN (LkM L co) cz K d w + foA (LkM L co) cz d * ((((L (co t))).getD u (0, 0)).1 : Nat) : Nat) : Int) := by rw [hN_168, va_up_ne _ _ (by omega)]; exact v_2
                                  have hotJ : ∀ x, (x ≠ 2 ∧ x ≠ 31) → N_168 x = N3 x := fun x hx => (congrFun hN_168 x).trans ((va_up_ne _ _ (by omega)).trans (hotJ x hx))
                                  have hfr : ∀ j, j ≠ i + 1 → g_168 j = g j := fun j hj => (hf_168 j hj).trans (hfr j hj)
                                  refine lv_iinc (v := iI (((8 * co t + (u + 1) : Nat) : Int))) (lv' := [(5, .int (iI (((8 * co t + (u + 1) : Nat) : Int)))), (6, .int (iI (0))), (0, .ref (A (i))), (1, .int (iI (z))), (2, .int (iI ((cz : Int) - 1 - (d : Int)))), (3, .int (iI (((co t : Nat) : Int)))), (4, .int (iI (((m : Nat) : Int))))]) X.1 X.2.1 dX11_few_171 hl (k := 6) rfl (by rw [show (Int32.ofInt (1)) = iI (1) from rfl, iI_add]; first | rfl | (congr 1; omega)) (by decide) rfl (fun ls hl => ?_)
                                  refine lv_goto (tgt := 80) X.1 X.2.1 dX11_few_174 (by decide) ?_
                                  exact ih_80 (u + 1) N_168 g_168 _ _ _ (by omega) (by omega) hN v_31 hotJ hfr hW (lv_sub hl [2, 3, 4, 5, 6, 0] rfl)
                                · exact absurd (by decide) b_148
                              · have hgs := mx_yes hu2 (Nat.le_of_lt (cmp_gt b_133))
                                refine x_iconst X dX11_few_136 ?_
                                refine lv_goto (tgt := 141) X.1 X.2.1 dX11_few_137 (by decide) ?_
                                refine lv_istore (lv' := [(6, .int (iI (1))), (0, .ref (A (i))), (1, .int (iI (z))), (2, .int (iI ((cz : Int) - 1 - (d : Int)))), (3, .int (iI (((co t : Nat) : Int)))), (4, .int (iI (((m : Nat) : Int)))), (5, .int (iI (((8 * co t + u : Nat) : Int))))]) X.1 X.2.1 dX11_few_141 hl (by decide) rfl (fun ls hl => ?_)
                                refine lv_aload_n X.1 X.2.1 dX11_few_143 rfl (lv_at hl 1 rfl) ?_
                                refine x_bipush X (by decide) dX11_few_144 ?_
                                refine lv_iload X.1 X.2.1 dX11_few_146 (lv_at hl 0 rfl) ?_
                                refine x_if_eq (tgt := 155) X ⟨by decide, by decide⟩ dX11_few_148 (by decide) (fun b_148 => ?_) (fun b_148 => ?_)
                                · exact absurd b_148 (by decide)
                                · refine x_iconst X dX11_few_151 ?_
                                  refine lv_goto (tgt := 160) X.1 X.2.1 dX11_few_152 (by decide) ?_
                                  refine lv_aload_n X.1 X.2.1 dX11_few_160 rfl (lv_at hl 1 rfl) ?_
                                  refine x_get (C := RX11) (T := TX11) (N := 21) X hW (by omega) hO rfl lk_0 7 (by decide) lk_6 rfl dX11_few_161 ?_
                                  refine lv_iload X.1 X.2.1 dX11_few_164 (lv_at hl 6 rfl) ?_
                                  refine x_iald X hW (by omega) h7 (v := iI (((((((L (co t))).getD u (0, 0)).2 : Nat) : Nat) : Int))) (8 * co t + u) (by omega) (by omega) (by decide) q7 dX11_few_166 ?_
                                  refine x_i2l X ⟨by omega, by omega⟩ dX11_few_167 ?_
                                  refine x_cv (x_runV (k := 3) (As := [.int (iI (31)), .int (iI (2)), .long (lI (((((((L (co t))).getD u (0, 0)).2 : Nat) : Nat) : Int)))]) (rest := []) X hW (c_X11_more l E A n _ g_120 i (31) (2) q N_120 (((((((L (co t))).getD u (0, 0)).2 : Nat) : Nat) : Int)) hi hO (by omega) (by omega) (by omega) hN (by omega) (by omega) (by rw [v_31, v_2, hgs]; omega) (by rw [v_31, v_2, hgs]; omega)) (by omega) hO rfl gX11_few_X11_more rfl rfl rfl (by decide +kernel) ⟨by decide, by decide⟩ rfl hl.1 rfl (Nat.le_of_ble_eq_true rfl) dX11_few_168 ⟨Nat.zero_le _, Nat.zero_le _⟩) hW (fun g_168 H locs hp_168 hW => ?_)
                                  obtain ⟨hN, hf_168⟩ := hp_168
                                  obtain ⟨N_168, hN_168⟩ : ∃ N9 : Nat → Int, N9 = va_up N_120 31 (N_120 31 + N_120 2 * (((((((L (co t))).getD u (0, 0)).2 : Nat) : Nat) : Int))) := ⟨_, rfl⟩
                                  rw [← hN_168] at hN
                                  have hO : g_168 i = .inr (11, [.ref (A (i + 1)), .ref (A (i + 2)), .ref (A (i + 3)), .ref (A (i + 4)), .int (iI (q 0)), .ref (A (i + 5)), .ref (A (i + 6)), .ref (A (i + 7)), .ref (A (i + 8)), .int (iI (q 1)), .ref (A (i + 9)), .ref (A (i + 10)), .ref (A (i + 11)), .int (iI (q 2)), .ref (A (i + 12)), .ref (A (i + 13)), .int (iI (q 3)), .ref (A (i + 14)), .ref (A (i + 15)), .ref (A (i + 16)), .int (iI (q 4))]) := by rw [hf_168 _ (by omega)]; exact hO
                                  have h5 : g_168 (i + 5) = aI E 16 f5 := by rw [hf_168 _ (by omega)]; exact h5
                                  have h6 : g_168 (i + 6) = aI E 128 f6 := by rw [hf_168 _ (by omega)]; exact h6
                                  have h7 : g_168 (i + 7) = aI E 128 f7 := by rw [hf_168 _ (by omega)]; exact h7
                                  have h8 : g_168 (i + 8) = aI E 16 f8 := by rw [hf_168 _ (by omega)]; exact h8
                                  have h9 : g_168 (i + 9) = aI E 10 f9 := by rw [hf_168 _ (by omega)]; exact h9
                                  have h10 : g_168 (i + 10) = aI E 10 f10 := by rw [hf_168 _ (by omega)]; exact h10
                                  have v_31 : N_168 31 = ((bMax ((L (co t)).take (u + 1)) (chN (LkM L co) cz K d w) (foA (LkM L co) cz d) (chN (LkM L co) cz K d m) : Nat) : Int) := by rw [hN_168, va_up_self, v_31, v_2, hgs]
                                  have v_30 : N_168 30 = ((foA (LkM L co) cz d : Nat) : Int) := by rw [hN_168, va_up_ne _ _ (by omega)]; exact v_30
                                  have v_10___w : N_168 (10 + w) = ((chN (LkM L co) cz K d w : Nat) : Int) := by rw [hN_168, va_up_ne _ _ (by omega)]; exact v_10___w
                                  have v_10___m : N_168 (10 + m) = ((chN (LkM L co) cz K d m : Nat) : Int) := by rw [hN_168, va_up_ne _ _ (by omega)]; exact v_10___m
                                  have v_2 : N_168 2 = ((chN (LkM L co) cz K d w + foA (LkM L co) cz d * ((((L (co t))).getD u (0, 0)).1 : Nat) : Nat) : Int) := by rw [hN_168, va_up_ne _ _ (by omega)]; exact v_2
                                  have hotJ : ∀ x, (x ≠ 2 ∧ x ≠ 31) → N_168 x = N3 x := fun x hx => (congrFun hN_168 x).trans ((va_up_ne _ _ (by omega)).trans (hotJ x hx))
                                  have hfr : ∀ j, j ≠ i + 1 → g_168 j = g j := fun j hj => (hf_168 j hj).trans (hfr j hj)
                                  refine lv_iinc (v := iI (((8 * co t + (u + 1) : Nat) : Int))) (lv' := [(5, .int (iI (((8 * co t + (u + 1) : Nat) : Int)))), (6, .int (iI (1))), (0, .ref (A (i))), (1, .int (iI (z))), (2, .int (iI ((cz : Int) - 1 - (d : Int)))), (3, .int (iI (((co t : Nat) : Int)))), (4, .int (iI (((m : Nat) : Int))))]) X.1 X.2.1 dX11_few_171 hl (k := 6) rfl (by rw [show (Int32.ofInt (1)) = iI (1) from rfl, iI_add]; first | rfl | (congr 1; omega)) (by decide) rfl (fun ls hl => ?_)
                                  refine lv_goto (tgt := 80) X.1 X.2.1 dX11_few_174 (by decide) ?_
                                  exact ih_80 (u + 1) N_168 g_168 _ _ _ (by omega) (by omega) hN v_31 hotJ hfr hW (lv_sub hl [2, 3, 4, 5, 6, 0] rfl)
                        exact loop_80 _ 0 N_71 g_71 _ _ _ (Nat.lt_succ_self _) (Nat.zero_le _) hN v_31 hotJ hfr hW (lv_sub hl [1, 2, 3, 4, 5, 0] rfl)
                  exact loop_62 _ K N2 g2 _ _ _ (Nat.lt_succ_self _) (Nat.le_refl _) hN (fun y hy => by rw [if_neg (by omega)]; exact hT y hy) v_30 hfr hW (lv_sub hl [2, 3, 4, 1, 0] rfl)
            exact loop_48 _ 0 N_38 g_38 _ _ _ (Nat.lt_succ_self _) (Nat.zero_le _) hN hZ2 v_30 hfr hW (lv_sub hl [1, 2, 0] rfl)
          · refine lv_aload_n X.1 X.2.1 dX11_few_19 rfl (lv_at hl 0 rfl) ?_
            refine x_bipush X (by decide) dX11_few_20 ?_
            refine lv_iload_n X.1 X.2.1 dX11_few_22 rfl (lv_at hl 2 rfl) ?_
            refine x_iadd X dX11_few_23 ?_
            refine x_seti (((10 + m : Nat) : Int)) (by omega) ?_
            refine x_lconst X 0 (by decide) dX11_few_24 ?_
            refine x_cv (x_runV (k := 2) (As := [.int (iI (((10 + m : Nat) : Int))), .long (lI (0))]) (rest := []) X hW (c_X11_set l E A n _ g1 i (10 + m) q N1 (0) hi hO (by omega) hN (by decide) (by decide)) (by omega) hO rfl gX11_few_X11_set rfl rfl rfl (by decide +kernel) ⟨by decide, by decide⟩ rfl hl.1 rfl (Nat.le_of_ble_eq_true rfl) dX11_few_25 ⟨Nat.zero_le _, Nat.zero_le _⟩) hW (fun g_25 H locs hp_25 hW => ?_)
            obtain ⟨hN, hf_25⟩ := hp_25
            obtain ⟨N_25, hN_25⟩ : ∃ N9 : Nat → Int, N9 = va_up N1 (10 + m) (0) := ⟨_, rfl⟩
            rw [← hN_25] at hN
            have hO : g_25 i = .inr (11, [.ref (A (i + 1)), .ref (A (i + 2)), .ref (A (i + 3)), .ref (A (i + 4)), .int (iI (q 0)), .ref (A (i + 5)), .ref (A (i + 6)), .ref (A (i + 7)), .ref (A (i + 8)), .int (iI (q 1)), .ref (A (i + 9)), .ref (A (i + 10)), .ref (A (i + 11)), .int (iI (q 2)), .ref (A (i + 12)), .ref (A (i + 13)), .int (iI (q 3)), .ref (A (i + 14)), .ref (A (i + 15)), .ref (A (i + 16)), .int (iI (q 4))]) := by rw [hf_25 _ (by omega)]; exact hO
            have h5 : g_25 (i + 5) = aI E 16 f5 := by rw [hf_25 _ (by omega)]; exact h5
            have h6 : g_25 (i + 6) = aI E 128 f6 := by rw [hf_25 _ (by omega)]; exact h6
            have h7 : g_25 (i + 7) = aI E 128 f7 := by rw [hf_25 _ (by omega)]; exact h7
            have h8 : g_25 (i + 8) = aI E 16 f8 := by rw [hf_25 _ (by omega)]; exact h8
            have h9 : g_25 (i + 9) = aI E 10 f9 := by rw [hf_25 _ (by omega)]; exact h9
            have h10 : g_25 (i + 10) = aI E 10 f10 := by rw [hf_25 _ (by omega)]; exact h10
            have v_10___m : N_25 (10 + m) = 0 := by rw [hN_25, va_up_self]
            have hotA : ∀ x, x ≠ 10 + m → N_25 x = N1 x := fun x hx => (congrFun hN_25 x).trans ((va_up_ne _ _ (by omega)).trans (hotA x hx))
            have hfr : ∀ j, j ≠ i + 1 → g_25 j = g j := fun j hj => (hf_25 j hj).trans (hfr j hj)
            refine lv_iinc (v := iI (((m + 1 : Nat) : Int))) (lv' := [(2, .int (iI (((m + 1 : Nat) : Int)))), (0, .ref (A (i))), (1, .int (iI (z)))]) X.1 X.2.1 dX11_few_28 hl (k := 2) rfl (by rw [show (Int32.ofInt (1)) = iI (1) from rfl, iI_add]; rfl) (by decide) rfl (fun ls hl => ?_)
            refine lv_goto (tgt := 14) X.1 X.2.1 dX11_few_31 (by decide) ?_
            exact ih_14 (m + 1) N_25 g_25 _ _ _ (by omega) (by omega) hN (fun y hy => if ey : y = m then (by rw [ey]; exact v_10___m) else (by rw [hotA _ (by omega)]; exact hZ y (by omega))) hfr hW (lv_sub hl [1, 2, 0] rfl)
      exact loop_14 _ 0 N g _ _ _ (Nat.lt_succ_self _) (Nat.zero_le _) hN (fun y hy => absurd hy (Nat.not_lt_zero _)) hfr hW (lv_sub hl [1, 2, 0] rfl)
    · refine x_iconst X dX11_few_10 ?_
      exact x_zret X hr hlk (by decide) hW (⟨by rw [if_neg (by omega)], fun h => absurd h (by omega), fun _ => rfl, fun _ _ => rfl⟩) dX11_few_11
