theorem pow_cap2 {d : Nat} (h : d ≤ 10) : (d * 1000 * 8000 ^ d) * 16000 + 8000 ^ d * 8001000 < 10 ^ 54 := by
  have h1 : 8000 ^ d ≤ 8000 ^ 10 := Nat.pow_le_pow_right (by decide) h
  have h2 : d * 1000 * 8000 ^ d ≤ 10 * 1000 * 8000 ^ 10 := Nat.mul_le_mul (Nat.mul_le_mul_right _ h) h1
  have h3 : (10 * 1000 * 8000 ^ 10) * 16000 + 8000 ^ 10 * 8001000 < 10 ^ 54 := by decide
  exact Nat.lt_of_le_of_lt (Nat.add_le_add (Nat.mul_le_mul_right 16000 h2) (Nat.mul_le_mul_right 8001000 h1)) h3

set_option maxHeartbeats 4000000 in
set_option maxRecDepth 100000 in
/-- choose: the best way with K yeses at most, from the last comer to the first -/
theorem c_X2_choose (l : Launch) (E : wE) (A : Nat → Nat) (n sz : Nat) (g : Nat → va_E) (i cz : Nat) (bc : Nat → Nat) (Lk : Nat → List (Nat × Nat)) (K : Nat) (fm : Nat → Option Nat) (bb : Nat → Int32) (hi : i + 41 < n) (h0 : g i = .inr (2, [.ref (A (i + 1)), .ref (A (i + 6)), .ref (A (i + 7)), .ref (A (i + 8)), .ref (A (i + 9)), .ref (A (i + 10)), .ref (A (i + 12)), .ref (A (i + 14)), .ref (A (i + 16)), .ref (A (i + 18))])) (hC : CrowdV E A g (i + 1) cz bc) (hB : BksV E A g n cz bc Lk) (hdb : ∀ k, k < cz → i + 41 < bc k ∨ bc k + 2 < i) (h9 : g (i + 9) = aR E 3 11 fm) (hm9 : ∀ k, k < 11 → fm k = some (A (i + 20 + 2 * k))) (hb7 : g (i + 7) = aI E 10 bb) (hX2 : NatX E A g (i + 12)) (hX4 : NatX E A g (i + 14)) (hMx : ∀ k, k < 11 → NatX E A g (i + 20 + 2 * k)) (hK : K ≤ 10) : Met l yX2_choose wsX2_choose ({ frames := 5, cells := 0, slots := 0, locals := 220 } : Room) (va_Pc [.ref (A (i)), .int (iI ((K : Int)))] (wPre E A n sz g)) (va_Qv (fun g' => (∀ y, y < 11 → NatV E A g' (i + 20 + 2 * y) (chN Lk cz K cz y)) ∧ NatV E A g' (i + 12) (foA Lk cz cz) ∧ NatX E A g' (i + 14) ∧ (∃ b7 : Nat → Int32, g' (i + 7) = aI E 10 b7 ∧ (1 ≤ K → ∀ t, t < cz → ∃ b : Nat, b7 t = iI (b : Int) ∧ LB (Lk t) 0 (foA Lk cz (cz - 1 - t)) (chN Lk cz K (cz - 1 - t) 1) b)) ∧ ∀ j, ((j < i + 20 ∨ i + 41 < j) ∧ j ≠ i + 7 ∧ j ≠ i + 13 ∧ j ≠ i + 15) → g' j = g j) (wAt E A n) (wF A n sz)) 0 0 (wF A n sz) := by
  refine x_met (cc := cX2_choose) (maxL := 5) (ret := none) [.ref (A (i)), .int (iI ((K : Int)))] (by decide) rfl (Nat.le_of_ble_eq_true rfl) ?_
  intro p e s m below meth c ls X hr hlk hnm hsz hW hl
  have hl : lv_has ls 5 [(0, .ref (A (i))), (1, .int (iI ((K : Int))))] := hl
  have lk_0 : ∀ w ∈ wsX20, w ∈ wsX2_choose := by decide +kernel
  have lk_1 : Cond.fieldLink RX2 30 (TX2 4).1 (TX2 4).2.1 (TX2 4).2.2.1 ∈ wsX2_choose := by decide +kernel
  have lk_2 : Cond.fieldLink RX2 39 (TX2 6).1 (TX2 6).2.1 (TX2 6).2.2.1 ∈ wsX2_choose := by decide +kernel
  have lk_3 : Cond.fieldLink RX2 12 (TX2 0).1 (TX2 0).2.1 (TX2 0).2.2.1 ∈ wsX2_choose := by decide +kernel
  have lk_4 : Cond.methodLink RX2 80 Lib.Math.min.name ∈ wsX2_choose := by decide +kernel
  have lk_5 : Cond.static Lib.Math.min.name ∈ wsX2_choose := by decide +kernel
  have lk_6 : Cond.initialized "java/lang/Math" ∈ wsX2_choose := by decide +kernel
  have lk_7 : Cond.code Lib.Math.min.name Lib.Math.min.code 2 (some .int) ∈ wsX2_choose := by decide +kernel
  have lk_8 : Cond.fieldLink RX2 22 (TX2 2).1 (TX2 2).2.1 (TX2 2).2.2.1 ∈ wsX2_choose := by decide +kernel
  have hCg := hC
  have hBg := hB
  have h0g := h0
  have h9g := h9
  have n_12 := hX2
  have nT := hX4
  have hc0 := hC.1
  have hz10 : cz ≤ 10 := hC.2.1
  have hfr : ∀ j, ((j < i + 20 ∨ i + 41 < j) ∧ j ≠ i + 7 ∧ j ≠ i + 13 ∧ j ≠ i + 15) → g j = g j := fun _ _ => rfl
  refine x_iconst X dX2_choose_0 ?_
  refine x_seti (((0 : Nat) : Int)) rfl ?_
  refine lv_istore_n (lv' := [(2, .int (iI (((0 : Nat) : Int)))), (0, .ref (A (i))), (1, .int (iI ((K : Int))))]) X.1 X.2.1 dX2_choose_1 rfl hl (by decide) rfl (fun ls hl => ?_)
  have loop_2 : ∀ (fuel : Nat) (q : Nat) (g1 : Nat → va_E) (H : Heap) (locs : List Loc) (ls : Array Slot), (11 - q) < fuel → (q ≤ 11) → (∀ y, y < q → NatV E A g1 (i + 20 + 2 * y) 0) → (∀ y, y < 11 → NatX E A g1 (i + 20 + 2 * y)) → (∀ j, (j < i + 20 ∨ i + 41 < j) → g1 j = g j) → wH E (wF A n sz) A n s g1 H locs → lv_has ls 5 [(0, .ref (A (i))), (1, .int (iI ((K : Int)))), (2, .int (iI ((q : Int))))] → W p l e ({ frames := 5, cells := 0, slots := 0, locals := 220 } : Room) s m [.ref (A (i)), .int (iI ((K : Int)))].toArray below meth c H locs 0 0 (MQ below (va_Qv (fun g' => (∀ y, y < 11 → NatV E A g' (i + 20 + 2 * y) (chN Lk cz K cz y)) ∧ NatV E A g' (i + 12) (foA Lk cz cz) ∧ NatX E A g' (i + 14) ∧ (∃ b7 : Nat → Int32, g' (i + 7) = aI E 10 b7 ∧ (1 ≤ K → ∀ t, t < cz → ∃ b : Nat, b7 t = iI (b : Int) ∧ LB (Lk t) 0 (foA Lk cz (cz - 1 - t)) (chN Lk cz K (cz - 1 - t) 1) b)) ∧ ∀ j, ((j < i + 20 ∨ i + 41 < j) ∧ j ≠ i + 7 ∧ j ≠ i + 13 ∧ j ≠ i + 15) → g' j = g j) (wAt E A n) (wF A n sz)) [.ref (A (i)), .int (iI ((K : Int)))].toArray s 0 0 (wF A n sz)) (F0 m 2 ls []) := by
    intro fuel
    induction fuel with
    | zero => intro q g1 H locs ls hm; exact absurd hm (Nat.not_lt_zero _)
    | succ fuel ih_2 =>
      intro q g1 H locs ls hm hq hMv hMx hfr1 hW hl
      have hfr : ∀ j, ((j < i + 20 ∨ i + 41 < j) ∧ j ≠ i + 7 ∧ j ≠ i + 13 ∧ j ≠ i + 15) → g1 j = g j := fun j hj => hfr1 j hj.1
      have h0 : g1 i = .inr (2, [.ref (A (i + 1)), .ref (A (i + 6)), .ref (A (i + 7)), .ref (A (i + 8)), .ref (A (i + 9)), .ref (A (i + 10)), .ref (A (i + 12)), .ref (A (i + 14)), .ref (A (i + 16)), .ref (A (i + 18))]) := (hfr _ (by omega)).trans h0g
      have h9 : g1 (i + 9) = aR E 3 11 fm := (hfr _ (by omega)).trans h9g
      refine lv_iload_n X.1 X.2.1 dX2_choose_2 rfl (lv_at hl 2 rfl) ?_
      refine lv_aload_n X.1 X.2.1 dX2_choose_3 rfl (lv_at hl 0 rfl) ?_
      refine x_get (C := RX2) (T := TX2) (N := 10) X hW (by omega) h0 rfl lk_0 4 (by decide) lk_1 rfl dX2_choose_4 ?_
      refine x_alen X hW (by omega) h9 rfl dX2_choose_7 ?_
      refine x_icmp_ge (tgt := 27) X ⟨by omega, by omega⟩ ⟨by omega, by omega⟩ dX2_choose_8 (by decide) (fun b_8 => ?_) (fun b_8 => ?_)
      · have hq11 : q = 11 := by omega
        refine lv_aload_n X.1 X.2.1 dX2_choose_27 rfl (lv_at hl 0 rfl) ?_
        refine x_get (C := RX2) (T := TX2) (N := 10) X hW (by omega) h0 rfl lk_0 6 (by decide) lk_2 rfl dX2_choose_28 ?_
        refine x_lconst X 1 (by decide) dX2_choose_31 ?_
        have n_12 : NatX E A g1 (i + 12) := n_12.frame (hfr1 _ (by omega)) (hfr1 _ (by omega))
        have nT : NatX E A g1 (i + 14) := nT.frame (hfr1 _ (by omega)) (hfr1 _ (by omega))
        have hb7 : g1 (i + 7) = aI E 10 bb := (hfr1 _ (by omega)).trans hb7
        have hc0 := (hCg.frame (hfr1 _ (by omega)) (hfr1 _ (by omega))).1
        refine x_cv (x_runV (k := 1) (As := [.long (lI (1))]) (rest := []) X hW (c_X5_put l E A n _ g1 (i + 12) 1 (by omega) n_12 (by decide)) (by omega) n_12.1 rfl gX2_choose_X5_put rfl rfl rfl (by decide +kernel) ⟨by decide, by decide⟩ rfl hl.1 rfl (Nat.le_of_ble_eq_true rfl) dX2_choose_32 ⟨Nat.zero_le _, Nat.zero_le _⟩) hW (fun g_32 H locs hp_32 hW => ?_)
        obtain ⟨nv, hf_32⟩ := hp_32
        have h0 : g_32 i = .inr (2, [.ref (A (i + 1)), .ref (A (i + 6)), .ref (A (i + 7)), .ref (A (i + 8)), .ref (A (i + 9)), .ref (A (i + 10)), .ref (A (i + 12)), .ref (A (i + 14)), .ref (A (i + 16)), .ref (A (i + 18))]) := by rw [hf_32 _ (by omega)]; exact h0
        have h9 : g_32 (i + 9) = aR E 3 11 fm := by rw [hf_32 _ (by omega)]; exact h9
        have hb7 : g_32 (i + 7) = aI E 10 bb := by rw [hf_32 _ (by omega)]; exact hb7
        have hc0 : g_32 (i + 1) = .inr (3, [.ref (A (i + 1 + 1)), .ref (A (i + 1 + 4)), .int (iI ((cz : Int)))]) := by rw [hf_32 _ (by omega)]; exact hc0
        have n_12 : NatV E A g_32 (i + 12) 1 := nv
        have nT := nT.frame (hf_32 _ (by omega)) (hf_32 _ (by omega))
        have hMv : ∀ y, y < 11 → NatV E A g_32 (i + 20 + 2 * y) 0 := fun y hy => (hMv y (by omega)).frame (hf_32 _ (by omega)) (hf_32 _ (by omega))
        have hfr : ∀ j, ((j < i + 20 ∨ i + 41 < j) ∧ j ≠ i + 7 ∧ j ≠ i + 13 ∧ j ≠ i + 15) → g_32 j = g j := fun j hj => (hf_32 j (by omega)).trans (hfr j hj)
        refine lv_aload_n X.1 X.2.1 dX2_choose_35 rfl (lv_at hl 0 rfl) ?_
        refine x_get (C := RX2) (T := TX2) (N := 10) X hW (by omega) h0 rfl lk_0 0 (by decide) lk_3 rfl dX2_choose_36 ?_
        have hC : CrowdV E A g_32 (i + 1) cz bc := hCg.frame (hfr _ (by omega)) (hfr _ (by omega))
        refine x_ci (x_runV (k := 0) (As := []) (rest := []) X hW (c_X3_size l E A n _ g_32 (i + 1) cz bc (by omega) hC) (by omega) hc0 rfl gX2_choose_X3_size rfl rfl rfl (by decide +kernel) ⟨by decide, by decide⟩ rfl hl.1 rfl (Nat.le_of_ble_eq_true rfl) dX2_choose_39 ⟨Nat.zero_le _, Nat.zero_le _⟩) hW (fun r_39 g_39 H locs hp_39 hW => ?_)
        obtain ⟨hr_39, he_39⟩ := hp_39
        rw [he_39] at hW
        subst hr_39
        refine x_bipush X (by decide) dX2_choose_42 ?_
        refine x_mmini X hl.1 ⟨by omega, by omega⟩ ⟨by decide, by decide⟩ lk_4 lk_5 lk_6 lk_7 (by decide) (Nat.le_of_ble_eq_true rfl) (Nat.zero_le _) (Nat.zero_le _) dX2_choose_44 ?_
        refine x_iconst X dX2_choose_47 ?_
        refine x_isub X dX2_choose_48 ?_
        refine x_seti (((cz : Nat) : Int) - 1) (by split <;> omega) ?_
        refine lv_istore_n (lv' := [(2, .int (iI (((cz : Nat) : Int) - 1))), (0, .ref (A (i))), (1, .int (iI ((K : Int))))]) X.1 X.2.1 dX2_choose_49 rfl hl (by decide) rfl (fun ls hl => ?_)
        have loop_50 : ∀ (fuel : Nat) (k : Nat) (bb : Nat → Int32) (gw : Nat → va_E) (H : Heap) (locs : List Loc) (ls : Array Slot), (k) < fuel → (k ≤ cz) → (∀ y, y < 11 → NatV E A gw (i + 20 + 2 * y) (chN Lk cz K (cz - k) y)) → (NatV E A gw (i + 12) (foA Lk cz (cz - k))) → (NatX E A gw (i + 14)) → (gw (i + 7) = aI E 10 bb) → (1 ≤ K → ∀ t, k ≤ t → t < cz → ∃ b : Nat, bb t = iI (b : Int) ∧ LB (Lk t) 0 (foA Lk cz (cz - 1 - t)) (chN Lk cz K (cz - 1 - t) 1) b) → (∀ j, ((j < i + 20 ∨ i + 41 < j) ∧ j ≠ i + 7 ∧ j ≠ i + 13 ∧ j ≠ i + 15) → gw j = g j) → wH E (wF A n sz) A n s gw H locs → lv_has ls 5 [(0, .ref (A (i))), (1, .int (iI ((K : Int)))), (2, .int (iI ((k : Int) - 1)))] → W p l e ({ frames := 5, cells := 0, slots := 0, locals := 220 } : Room) s m [.ref (A (i)), .int (iI ((K : Int)))].toArray below meth c H locs 0 0 (MQ below (va_Qv (fun g' => (∀ y, y < 11 → NatV E A g' (i + 20 + 2 * y) (chN Lk cz K cz y)) ∧ NatV E A g' (i + 12) (foA Lk cz cz) ∧ NatX E A g' (i + 14) ∧ (∃ b7 : Nat → Int32, g' (i + 7) = aI E 10 b7 ∧ (1 ≤ K → ∀ t, t < cz → ∃ b : Nat, b7 t = iI (b : Int) ∧ LB (Lk t) 0 (foA Lk cz (cz - 1 - t)) (chN Lk cz K (cz - 1 - t) 1) b)) ∧ ∀ j, ((j < i + 20 ∨ i + 41 < j) ∧ j ≠ i + 7 ∧ j ≠ i + 13 ∧ j ≠ i + 15) → g' j = g j) (wAt E A n) (wF A n sz)) [.ref (A (i)), .int (iI ((K : Int)))].toArray s 0 0 (wF A n sz)) (F0 m 50 ls []) := by
          intro fuel
          induction fuel with
          | zero => intro k bb gw H locs ls hm; exact absurd hm (Nat.not_lt_zero _)
          | succ fuel ih_50 =>
            intro k bb gw H locs ls hm hk hM n_12 nT hb7 hBB hfr hW hl
            have h0 : gw i = .inr (2, [.ref (A (i + 1)), .ref (A (i + 6)), .ref (A (i + 7)), .ref (A (i + 8)), .ref (A (i + 9)), .ref (A (i + 10)), .ref (A (i + 12)), .ref (A (i + 14)), .ref (A (i + 16)), .ref (A (i + 18))]) := (hfr _ (by omega)).trans h0g
            have h9 : gw (i + 9) = aR E 3 11 fm := (hfr _ (by omega)).trans h9g
            have hC : CrowdV E A gw (i + 1) cz bc := hCg.frame (hfr _ (by omega)) (hfr _ (by omega))
            have hB : BksV E A gw n cz bc Lk := hBg.frame (fun k hk => by have := hdb k hk; exact ⟨hfr _ (by omega), hfr _ (by omega), hfr _ (by omega)⟩)
            have hc0 := hC.1
            refine lv_iload_n X.1 X.2.1 dX2_choose_50 rfl (lv_at hl 2 rfl) ?_
            refine x_if_lt (tgt := 128) X ⟨by omega, by omega⟩ dX2_choose_51 (by decide) (fun b_51 => ?_) (fun b_51 => ?_)
            · exact x_vret X hr hlk hW (⟨fun y hy => by have q9 := hM y hy; rw [show k = 0 from by omega, Nat.sub_zero] at q9; exact q9, by rw [show k = 0 from by omega, Nat.sub_zero] at n_12; exact n_12, nT, ⟨bb, hb7, fun h1 t ht => hBB h1 t (by omega) ht⟩, hfr⟩) dX2_choose_128
            · obtain ⟨t, ht⟩ : ∃ t, k = t + 1 := ⟨k - 1, by omega⟩
              have hk9 : t < cz := by omega
              have hdk := hdb t hk9
              have hq3 := (hB t hk9).2.tot
              have et : cz - 1 - (cz - k) = t := by omega
              have hst2 : foA Lk cz (cz - t) = foA Lk cz (cz - k) * bE (Lk t) (fun _ => 1) := by
                rw [show cz - t = cz - k + 1 from by omega]; show foA Lk cz (cz - k) * _ = _; rw [et]
              have hm2 := foA_le (fun k hk => (hB k hk).2.tot) (cz - t) (by omega)
              have hm4 := foA_le (fun k hk => (hB k hk).2.tot) (cz - k) (by omega)
              have hm3 := pow_cap (d := cz - t) (by omega)
              have hm5 := chN_le (K := K) hB (cz - k) (by omega)
              have hm6 := pow_cap2 (d := cz - k) (by omega)
              rw [hst2] at hm2
              refine lv_aload_n X.1 X.2.1 dX2_choose_54 rfl (lv_at hl 0 rfl) ?_
              refine x_get (C := RX2) (T := TX2) (N := 10) X hW (by omega) h0 rfl lk_0 0 (by decide) lk_3 rfl dX2_choose_55 ?_
              refine lv_iload_n X.1 X.2.1 dX2_choose_58 rfl (lv_at hl 2 rfl) ?_
              refine x_seti ((t : Int)) (by omega) ?_
              refine x_cr (x_runV (k := 1) (As := [.int (iI ((t : Int)))]) (rest := []) X hW (c_X3_at l E A n _ gw (i + 1) cz bc t (by omega) hC hk9) (by omega) hc0 rfl gX2_choose_X3_at rfl rfl rfl (by decide +kernel) ⟨by decide, by decide⟩ rfl hl.1 rfl (Nat.le_of_ble_eq_true rfl) dX2_choose_59 ⟨Nat.zero_le _, Nat.zero_le _⟩) hW (fun j_59 g_59 H locs hp_59 hW => ?_)
              have hj_59 : j_59 = bc t := hp_59.1
              have he_59 : g_59 = gw := hp_59.2
              rw [he_59] at hW
              subst hj_59
              obtain ⟨hbn, hbv⟩ := hB t hk9
              have hbx_59 := hbv
              obtain ⟨bz_59, wo_59, we_59, tot_59, hbc_59, _⟩ := hbx_59
              have hbo_59 := hbc_59.1
              refine lv_astore_n (lv' := [(3, .ref (A (bc t))), (0, .ref (A (i))), (1, .int (iI ((K : Int)))), (2, .int (iI ((k : Int) - 1)))]) X.1 X.2.1 dX2_choose_62 rfl hl (by decide) rfl (fun ls hl => ?_)
              refine lv_iload_n X.1 X.2.1 dX2_choose_63 rfl (lv_at hl 2 rfl) ?_
              refine x_bipush X (by decide) dX2_choose_64 ?_
              refine x_mmini X hl.1 ⟨by omega, by omega⟩ ⟨by decide, by decide⟩ lk_4 lk_5 lk_6 lk_7 (by decide) (Nat.le_of_ble_eq_true rfl) (Nat.zero_le _) (Nat.zero_le _) dX2_choose_66 ?_
              refine x_seti (((K : Nat) : Int)) (by split <;> omega) ?_
              refine lv_istore (lv' := [(4, .int (iI (((K : Nat) : Int)))), (3, .ref (A (bc t))), (0, .ref (A (i))), (1, .int (iI ((K : Int)))), (2, .int (iI ((k : Int) - 1)))]) X.1 X.2.1 dX2_choose_69 hl (by decide) rfl (fun ls hl => ?_)
              have loop_71 : ∀ (fuel : Nat) (y : Nat) (bz7 : Nat → Int32) (gz : Nat → va_E) (H : Heap) (locs : List Loc) (ls : Array Slot), (y) < fuel → (y ≤ K) → (∀ y9, y9 < 11 → NatV E A gz (i + 20 + 2 * y9) (if y < y9 then chN Lk cz K (cz - k + 1) y9 else chN Lk cz K (cz - k) y9)) → (NatV E A gz (i + 12) (foA Lk cz (cz - k))) → (NatX E A gz (i + 14)) → (gz (i + 7) = aI E 10 bz7) → (∀ t9, t9 ≠ t → bz7 t9 = bb t9) → (y = 0 ∧ 1 ≤ K → ∃ b : Nat, bz7 t = iI (b : Int) ∧ LB (Lk t) 0 (foA Lk cz (cz - k)) (chN Lk cz K (cz - k) 1) b) → (∀ j, ((j < i + 20 ∨ i + 41 < j) ∧ j ≠ i + 7 ∧ j ≠ i + 13 ∧ j ≠ i + 15) → gz j = g j) → wH E (wF A n sz) A n s gz H locs → lv_has ls 5 [(0, .ref (A (i))), (1, .int (iI ((K : Int)))), (2, .int (iI ((k : Int) - 1))), (3, .ref (A (bc t))), (4, .int (iI ((y : Int))))] → W p l e ({ frames := 5, cells := 0, slots := 0, locals := 220 } : Room) s m [.ref (A (i)), .int (iI ((K : Int)))].toArray below meth c H locs 0 0 (MQ below (va_Qv (fun g' => (∀ y, y < 11 → NatV E A g' (i + 20 + 2 * y) (chN Lk cz K cz y)) ∧ NatV E A g' (i + 12) (foA Lk cz cz) ∧ NatX E A g' (i + 14) ∧ (∃ b7 : Nat → Int32, g' (i + 7) = aI E 10 b7 ∧ (1 ≤ K → ∀ t, t < cz → ∃ b : Nat, b7 t = iI (b : Int) ∧ LB (Lk t) 0 (foA Lk cz (cz - 1 - t)) (chN Lk cz K (cz - 1 - t) 1) b)) ∧ ∀ j, ((j < i + 20 ∨ i + 41 < j) ∧ j ≠ i + 7 ∧ j ≠ i + 13 ∧ j ≠ i + 15) → g' j = g j) (wAt E A n) (wF A n sz)) [.ref (A (i)), .int (iI ((K : Int)))].toArray s 0 0 (wF A n sz)) (F0 m 71 ls []) := by
                intro fuel
                induction fuel with
                | zero => intro y bz7 gz H locs ls hm; exact absurd hm (Nat.not_lt_zero _)
                | succ fuel ih_71 =>
                  intro y bz7 gz H locs ls hm hyK hM n_12 nT hb7 hbo7 hbt0 hfr hW hl
                  have h0 : gz i = .inr (2, [.ref (A (i + 1)), .ref (A (i + 6)), .ref (A (i + 7)), .ref (A (i + 8)), .ref (A (i + 9)), .ref (A (i + 10)), .ref (A (i + 12)), .ref (A (i + 14)), .ref (A (i + 16)), .ref (A (i + 18))]) := (hfr _ (by omega)).trans h0g
                  have h9 : gz (i + 9) = aR E 3 11 fm := (hfr _ (by omega)).trans h9g
                  have hbv : BookV E A gz (bc t) (Lk t) := ((hBg t hk9).2).frame (hfr _ (by omega)) (hfr _ (by omega)) (hfr _ (by omega))
                  have hbx := hbv
                  obtain ⟨bz_9, wo_9, we_9, tot_9, hbc_9, _⟩ := hbx
                  have hbo := hbc_9.1
                  refine lv_iload X.1 X.2.1 dX2_choose_71 (lv_at hl 4 rfl) ?_
                  refine x_iconst X dX2_choose_73 ?_
                  refine x_icmp_lt (tgt := 110) X ⟨by omega, by omega⟩ ⟨by decide, by decide⟩ dX2_choose_74 (by decide) (fun b_74 => ?_) (fun b_74 => ?_)
                  · have hy0 : y = 0 := by omega
                    have hbn := (hBg t hk9).1
                    refine lv_aload_n X.1 X.2.1 dX2_choose_110 rfl (lv_at hl 0 rfl) ?_
                    refine x_get (C := RX2) (T := TX2) (N := 10) X hW (by omega) h0 rfl lk_0 6 (by decide) lk_2 rfl dX2_choose_111 ?_
                    refine lv_aload_n X.1 X.2.1 dX2_choose_114 rfl (lv_at hl 3 rfl) ?_
                    refine x_ci (x_runV (k := 0) (As := []) (rest := [.ref (A (i + 12))]) X hW (c_X0_total l E A n _ gz (bc t) (Lk t) hbn hbv) (by omega) hbo rfl gX2_choose_X0_total rfl rfl rfl (by decide +kernel) ⟨by decide, by decide⟩ rfl hl.1 rfl (Nat.le_of_ble_eq_true rfl) dX2_choose_115 ⟨Nat.zero_le _, Nat.zero_le _⟩) hW (fun r_115 g_115 H locs hp_115 hW => ?_)
                    obtain ⟨hr_115, he_115⟩ := hp_115
                    rw [he_115] at hW
                    subst hr_115
                    refine x_i2l X ⟨by omega, by omega⟩ dX2_choose_118 ?_
                    refine x_cv (x_runV (k := 1) (As := [.long (lI (((bE (Lk t) (fun _ => 1) : Nat) : Int)))]) (rest := []) X hW (c_X5_times l E A n _ gz (i + 12) (foA Lk cz (cz - k)) (bE (Lk t) (fun _ => 1)) (by omega) n_12 (by omega) (by omega)) (by omega) n_12.2.1 rfl gX2_choose_X5_times rfl rfl rfl (by decide +kernel) ⟨by decide, by decide⟩ rfl hl.1 rfl (Nat.le_of_ble_eq_true rfl) dX2_choose_119 ⟨Nat.zero_le _, Nat.zero_le _⟩) hW (fun g_119 H locs hp_119 hW => ?_)
                    obtain ⟨nv_119, hf_119⟩ := hp_119
                    have h0 : g_119 i = .inr (2, [.ref (A (i + 1)), .ref (A (i + 6)), .ref (A (i + 7)), .ref (A (i + 8)), .ref (A (i + 9)), .ref (A (i + 10)), .ref (A (i + 12)), .ref (A (i + 14)), .ref (A (i + 16)), .ref (A (i + 18))]) := by rw [hf_119 _ (by omega)]; exact h0
                    have h9 : g_119 (i + 9) = aR E 3 11 fm := by rw [hf_119 _ (by omega)]; exact h9
                    have hb7 : g_119 (i + 7) = aI E 10 bz7 := by rw [hf_119 _ (by omega)]; exact hb7
                    have hbo : g_119 (bc t) = .inr (0, [.ref (A (bc t + 1)), .ref (A (bc t + 2)), .int (iI ((bz_9 : Int))), .int (iI ((tot_9 : Int)))]) := by rw [hf_119 _ (by omega)]; exact hbo
                    have n_12 : NatV E A g_119 (i + 12) (foA Lk cz (cz - k) * bE (Lk t) (fun _ => 1)) := nv_119
                    have nT := nT.frame (hf_119 _ (by omega)) (hf_119 _ (by omega))
                    have hM : ∀ y9, y9 < 11 → NatV E A g_119 (i + 20 + 2 * y9) (chN Lk cz K (cz - t) y9) := fun y9 hy9 => by
                      have q9 := (hM y9 hy9).frame (hf_119 _ (by omega)) (hf_119 _ (by omega))
                      rw [show cz - t = cz - k + 1 from by omega]
                      by_cases e7 : y < y9
                      · rw [if_pos e7] at q9; exact q9
                      · rw [if_neg e7] at q9; rw [chN_out (by omega)] at q9; rw [chN_out (by omega)]; exact q9
                    rw [← hst2] at n_12
                    have hfr : ∀ j, ((j < i + 20 ∨ i + 41 < j) ∧ j ≠ i + 7 ∧ j ≠ i + 13 ∧ j ≠ i + 15) → g_119 j = g j := fun j hj => (hf_119 j (by omega)).trans (hfr j hj)
                    refine lv_iinc (v := iI ((t : Int) - 1)) (lv' := [(2, .int (iI ((t : Int) - 1))), (0, .ref (A (i))), (1, .int (iI ((K : Int)))), (3, .ref (A (bc t))), (4, .int (iI ((y : Int))))]) X.1 X.2.1 dX2_choose_122 hl (k := 2) rfl (by rw [show (Int32.ofInt (-1)) = iI (-1) from rfl, iI_add]; congr 1; omega) (by decide) rfl (fun ls hl => ?_)
                    refine lv_goto (tgt := 50) X.1 X.2.1 dX2_choose_125 (by decide) ?_
                    exact ih_50 t _ g_119 _ _ _ (by omega) (by omega) hM n_12 nT hb7 (fun h1K t9 ht1 ht2 => if e9 : t9 = t then (by rw [e9, show cz - 1 - t = cz - k from by omega]; exact hbt0 ⟨hy0, h1K⟩) else (by rw [hbo7 t9 e9]; exact hBB h1K t9 (by omega) ht2)) hfr hW (lv_sub hl [1, 2, 0] rfl)
                  · obtain ⟨y1, hy1⟩ : ∃ y1, y = y1 + 1 := ⟨y - 1, by omega⟩
                    have nN := hM y (by omega)
                    rw [if_neg (by omega)] at nN
                    have nY := hM y1 (by omega)
                    rw [if_neg (by omega)] at nY
                    have hz1 := hm5 y
                    have hz2 := hm5 y1
                    have hbn := (hBg t hk9).1
                    refine lv_aload_n X.1 X.2.1 dX2_choose_77 rfl (lv_at hl 0 rfl) ?_
                    refine x_get (C := RX2) (T := TX2) (N := 10) X hW (by omega) h0 rfl lk_0 2 (by decide) lk_8 rfl dX2_choose_78 ?_
                    refine lv_iload_n X.1 X.2.1 dX2_choose_81 rfl (lv_at hl 2 rfl) ?_
                    refine lv_aload_n X.1 X.2.1 dX2_choose_82 rfl (lv_at hl 0 rfl) ?_
                    refine lv_aload_n X.1 X.2.1 dX2_choose_83 rfl (lv_at hl 3 rfl) ?_
                    refine lv_aload_n X.1 X.2.1 dX2_choose_84 rfl (lv_at hl 0 rfl) ?_
                    refine x_get (C := RX2) (T := TX2) (N := 10) X hW (by omega) h0 rfl lk_0 4 (by decide) lk_1 rfl dX2_choose_85 ?_
                    refine lv_iload X.1 X.2.1 dX2_choose_88 (lv_at hl 4 rfl) ?_
                    refine x_iconst X dX2_choose_90 ?_
                    refine x_isub X dX2_choose_91 ?_
                    refine x_aald X hW (by omega) h9 rfl (j := i + 20 + 2 * y1) y1 (by omega) (by omega) (by decide) (hm9 y1 (by omega)) dX2_choose_92 ?_
                    refine lv_aload_n X.1 X.2.1 dX2_choose_93 rfl (lv_at hl 0 rfl) ?_
                    refine x_get (C := RX2) (T := TX2) (N := 10) X hW (by omega) h0 rfl lk_0 4 (by decide) lk_1 rfl dX2_choose_94 ?_
                    refine lv_iload X.1 X.2.1 dX2_choose_97 (lv_at hl 4 rfl) ?_
                    refine x_aald X hW (by omega) h9 rfl (j := i + 20 + 2 * y) y (by omega) (by omega) (by decide) (hm9 y (by omega)) dX2_choose_99 ?_
                    refine x_ci (x_runV (k := 3) (As := [.ref (A (bc t)), .ref (A (i + 20 + 2 * y1)), .ref (A (i + 20 + 2 * y))]) (rest := [.int (iI ((k : Int) - 1)), .ref (A (i + 7))]) X hW (c_X2_chooseAt l E A n _ gz i (bc t) (i + 20 + 2 * y1) (i + 20 + 2 * y) (Lk t) (chN Lk cz K (cz - k) y1) (chN Lk cz K (cz - k) y) (foA Lk cz (cz - k)) hi h0 hbn hbv hdk (by omega) (by omega) (by omega) (by omega) (by omega) nY nN n_12 nT (by omega) (by omega)) (by omega) h0 rfl gX2_choose_X2_chooseAt rfl rfl rfl (by decide +kernel) ⟨by decide, by decide⟩ rfl hl.1 rfl (Nat.le_of_ble_eq_true rfl) dX2_choose_100 ⟨Nat.zero_le _, Nat.zero_le _⟩) hW (fun r_100 g_100 H locs hp_100 hW => ?_)
                    obtain ⟨⟨b, hr_100, hLB, nNew⟩, nT, hf_100⟩ := hp_100
                    subst hr_100
                    rw [ch_val hbv hLB] at nNew
                    have h0 : g_100 i = .inr (2, [.ref (A (i + 1)), .ref (A (i + 6)), .ref (A (i + 7)), .ref (A (i + 8)), .ref (A (i + 9)), .ref (A (i + 10)), .ref (A (i + 12)), .ref (A (i + 14)), .ref (A (i + 16)), .ref (A (i + 18))]) := by rw [hf_100 _ (by omega)]; exact h0
                    have h9 : g_100 (i + 9) = aR E 3 11 fm := by rw [hf_100 _ (by omega)]; exact h9
                    have hb7 : g_100 (i + 7) = aI E 10 bz7 := by rw [hf_100 _ (by omega)]; exact hb7
                    have hbo : g_100 (bc t) = .inr (0, [.ref (A (bc t + 1)), .ref (A (bc t + 2)), .int (iI ((bz_9 : Int))), .int (iI ((tot_9 : Int)))]) := by rw [hf_100 _ (by omega)]; exact hbo
                    have n_12 := n_12.frame (hf_100 _ (by omega)) (hf_100 _ (by omega))
                    have hM : ∀ y9, y9 < 11 → NatV E A g_100 (i + 20 + 2 * y9) (if y1 < y9 then chN Lk cz K (cz - k + 1) y9 else chN Lk cz K (cz - k) y9) := fun y9 hy9 => by
                      by_cases e9 : y9 = y
                      · rw [e9, if_pos (by omega)]
                        have e8 : chN Lk cz K (cz - k + 1) y = bMax (Lk (cz - 1 - (cz - k))) (chN Lk cz K (cz - k) (y - 1)) (foA Lk cz (cz - k)) (chN Lk cz K (cz - k) y) := by show (if _ then _ else _) = _; rw [if_pos ⟨by omega, by omega⟩]
                        rw [e8, et, show y - 1 = y1 from by omega]; exact nNew
                      · have q9 := (hM y9 hy9).frame (hf_100 _ (by omega)) (hf_100 _ (by omega))
                        by_cases e7 : y < y9
                        · rw [if_pos e7] at q9; rw [if_pos (by omega)]; exact q9
                        · rw [if_neg e7] at q9; rw [if_neg (by omega)]; exact q9
                    have hfr : ∀ j, ((j < i + 20 ∨ i + 41 < j) ∧ j ≠ i + 7 ∧ j ≠ i + 13 ∧ j ≠ i + 15) → g_100 j = g j := fun j hj => (hf_100 j (by omega)).trans (hfr j hj)
                    refine x_iast X hW (by omega) hb7 t (by omega) (by omega) (by decide) dX2_choose_103 (fun g_103 H locs hg_103 hW => ?_)
                    have h0 : g_103 i = .inr (2, [.ref (A (i + 1)), .ref (A (i + 6)), .ref (A (i + 7)), .ref (A (i + 8)), .ref (A (i + 9)), .ref (A (i + 10)), .ref (A (i + 12)), .ref (A (i + 14)), .ref (A (i + 16)), .ref (A (i + 18))]) := by rw [hg_103, va_up_ne _ _ (by omega)]; exact h0
                    have h9 : g_103 (i + 9) = aR E 3 11 fm := by rw [hg_103, va_up_ne _ _ (by omega)]; exact h9
                    have hbo : g_103 (bc t) = .inr (0, [.ref (A (bc t + 1)), .ref (A (bc t + 2)), .int (iI ((bz_9 : Int))), .int (iI ((tot_9 : Int)))]) := by rw [hg_103, va_up_ne _ _ (by omega)]; exact hbo
                    have hb7 : g_103 (i + 7) = aI E 10 (upd bz7 t (iI (((b : Nat) : Int)))) := by rw [hg_103]; exact va_up_self _ _ _
                    have hf_103 : ∀ j, j ≠ i + 7 → g_103 j = g_100 j := fun j hj => by rw [hg_103]; exact va_up_ne _ _ hj
                    have n_12 : NatV E A g_103 (i + 12) (foA Lk cz (cz - k)) := n_12.frame (hf_103 _ (by omega)) (hf_103 _ (by omega))
                    have hM : ∀ y9, y9 < 11 → NatV E A g_103 (i + 20 + 2 * y9) (if y1 < y9 then chN Lk cz K (cz - k + 1) y9 else chN Lk cz K (cz - k) y9) := fun y9 hy9 => (hM y9 hy9).frame (hf_103 _ (by omega)) (hf_103 _ (by omega))
                    have nT := nT.frame (hf_103 _ (by omega)) (hf_103 _ (by omega))
                    have hfr : ∀ j, ((j < i + 20 ∨ i + 41 < j) ∧ j ≠ i + 7 ∧ j ≠ i + 13 ∧ j ≠ i + 15) → g_103 j = g j := fun j hj => (hf_103 j (by omega)).trans (hfr j hj)
                    refine lv_iinc (v := iI ((y1 : Int))) (lv' := [(4, .int (iI ((y1 : Int)))), (0, .ref (A (i))), (1, .int (iI ((K : Int)))), (2, .int (iI ((k : Int) - 1))), (3, .ref (A (bc t)))]) X.1 X.2.1 dX2_choose_104 hl (k := 4) rfl (by rw [show (Int32.ofInt (-1)) = iI (-1) from rfl, iI_add]; congr 1; omega) (by decide) rfl (fun ls hl => ?_)
                    refine lv_goto (tgt := 71) X.1 X.2.1 dX2_choose_107 (by decide) ?_
                    exact ih_71 y1 _ g_103 _ _ _ (by omega) (by omega) hM n_12 nT hb7 (fun t9 e9 => by rw [pk_un e9]; exact hbo7 t9 e9) (fun h => ⟨b, pk_us, by
            have e5 := hLB
            rw [h.1, chN_out (by omega), show y = 1 from by omega] at e5; exact e5⟩) hfr hW (lv_sub hl [1, 2, 3, 4, 0] rfl)
              exact loop_71 _ K bb gw _ _ _ (Nat.lt_succ_self _) (Nat.le_refl _) (fun y9 hy9 => by
          by_cases e7 : K < y9
          · rw [if_pos e7, chN_out (by omega)]; have q9 := hM y9 hy9; rw [chN_out (by omega)] at q9; exact q9
          · rw [if_neg e7]; exact hM y9 hy9) n_12 nT hb7 (fun _ _ => rfl) (fun h => absurd h (by omega)) hfr hW (lv_sub hl [2, 3, 4, 1, 0] rfl)
        exact loop_50 _ cz bb g_32 _ _ _ (Nat.lt_succ_self _) (Nat.le_refl _) (fun y hy => by rw [Nat.sub_self]; exact hMv y (by omega)) (by rw [Nat.sub_self]; exact n_12) nT hb7 (fun _ t h1 h2 => absurd h1 (by omega)) hfr hW (lv_sub hl [1, 2, 0] rfl)
      · have hq9 : q < 11 := by omega
        refine lv_aload_n X.1 X.2.1 dX2_choose_11 rfl (lv_at hl 0 rfl) ?_
        refine x_get (C := RX2) (T := TX2) (N := 10) X hW (by omega) h0 rfl lk_0 4 (by decide) lk_1 rfl dX2_choose_12 ?_
        refine lv_iload_n X.1 X.2.1 dX2_choose_15 rfl (lv_at hl 2 rfl) ?_
        refine x_aald X hW (by omega) h9 rfl (j := i + 20 + 2 * q) q (by omega) (by omega) (by decide) (hm9 q hq9) dX2_choose_16 ?_
        have nq := hMx q hq9
        refine x_lconst X 0 (by decide) dX2_choose_17 ?_
        refine x_cv (x_runV (k := 1) (As := [.long (lI (0))]) (rest := []) X hW (c_X5_put l E A n _ g1 (i + 20 + 2 * q) 0 (by omega) nq (by decide)) (by omega) nq.1 rfl gX2_choose_X5_put rfl rfl rfl (by decide +kernel) ⟨by decide, by decide⟩ rfl hl.1 rfl (Nat.le_of_ble_eq_true rfl) dX2_choose_18 ⟨Nat.zero_le _, Nat.zero_le _⟩) hW (fun g_18 H locs hp_18 hW => ?_)
        obtain ⟨nv, hf_18⟩ := hp_18
        have h0 : g_18 i = .inr (2, [.ref (A (i + 1)), .ref (A (i + 6)), .ref (A (i + 7)), .ref (A (i + 8)), .ref (A (i + 9)), .ref (A (i + 10)), .ref (A (i + 12)), .ref (A (i + 14)), .ref (A (i + 16)), .ref (A (i + 18))]) := by rw [hf_18 _ (by omega)]; exact h0
        have h9 : g_18 (i + 9) = aR E 3 11 fm := by rw [hf_18 _ (by omega)]; exact h9
        have hMv : ∀ y, y < q + 1 → NatV E A g_18 (i + 20 + 2 * y) 0 := fun y hy => if e : y = q then (by rw [e]; exact nv) else (hMv y (by omega)).frame (hf_18 _ (by omega)) (hf_18 _ (by omega))
        have hMx : ∀ y, y < 11 → NatX E A g_18 (i + 20 + 2 * y) := fun y hy => if e : y = q then (by rw [e]; exact nv.any) else (hMx y hy).frame (hf_18 _ (by omega)) (hf_18 _ (by omega))
        have hfr1 : ∀ j, (j < i + 20 ∨ i + 41 < j) → g_18 j = g j := fun j hj => (hf_18 j (by omega)).trans (hfr1 j hj)
        refine lv_iinc (v := iI (((q + 1 : Nat) : Int))) (lv' := [(2, .int (iI (((q + 1 : Nat) : Int)))), (0, .ref (A (i))), (1, .int (iI ((K : Int))))]) X.1 X.2.1 dX2_choose_21 hl (k := 2) rfl (by rw [show (Int32.ofInt (1)) = iI (1) from rfl, iI_add]; rfl) (by decide) rfl (fun ls hl => ?_)
        refine lv_goto (tgt := 2) X.1 X.2.1 dX2_choose_24 (by decide) ?_
        exact ih_2 (q + 1) g_18 _ _ _ (by omega) (by omega) hMv hMx hfr1 hW (lv_sub hl [1, 2, 0] rfl)
  exact loop_2 _ 0 g _ _ _ (Nat.lt_succ_self _) (Nat.zero_le _) (fun y hy => absurd hy (Nat.not_lt_zero _)) hMx (fun _ _ => rfl) hW (lv_sub hl [1, 2, 0] rfl)
