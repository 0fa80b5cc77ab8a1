set_option maxHeartbeats 4000000 in
set_option maxRecDepth 100000 in
/-- meanInto -/
theorem c_X7_meanInto (l : Launch) (E : wE) (A : Nat → Nat) (n sz : Nat) (g : Nat → va_E) (i : Nat) (fy : Nat → Option Nat) (fp : Nat → Int32) (py : Nat → Nat) (nn rc : Nat) (hi : i + 48 < n) (hC : RkC E A g i fy) (h1 : g (i + 1) = aI E 21 fp) (hfp : ∀ k, k < 21 → fp k = iI ((py k : Nat) : Int) ∧ py k ≤ 1000) (hX3 : NatX E A g (i + 3)) (hX5 : NatX E A g (i + 5)) (hXY : ∀ y, y < 21 → NatX E A g (i + 7 + 2 * y)) (hn1 : 1 ≤ nn) (hn2 : nn ≤ 20) (hrc : rc + 8 < n) (hRX : ResX E A g rc) (hdr : rc + 8 < i ∨ i + 48 < rc) : Met l yX7_meanInto wsX7_meanInto ({ frames := 5, cells := 0, slots := 0, locals := 220 } : Room) (va_Pc [.ref (A (i)), .int (iI ((nn : Int))), .ref (A (rc))] (wPre E A n sz g)) (va_Qv (fun g' => ResV E A g' rc (rdT ((rkN py nn nn : Nat) : Int) (pr (fun k => k + 2) (nn - 1))) (rdB ((rkN py nn nn : Nat) : Int) (pr (fun k => k + 2) (nn - 1))) ∧ (g' i = .inr (7, [.ref (A (i + 1)), .ref (A (i + 2)), .ref (A (i + 3)), .ref (A (i + 5))]) ∧ g' (i + 1) = aI E 21 fp ∧ g' (i + 2) = aR E 3 21 fy ∧ NatX E A g' (i + 3) ∧ NatX E A g' (i + 5) ∧ ∀ y, y < 21 → NatX E A g' (i + 7 + 2 * y)) ∧ ∀ j, ((j < i ∨ i + 48 < j) ∧ (j < rc ∨ rc + 8 < j)) → g' j = g j) (wAt E A n) (wF A n sz)) 0 0 (wF A n sz) := by
  refine x_met (cc := cX7_meanInto) (maxL := 4) (ret := none) [.ref (A (i)), .int (iI ((nn : Int))), .ref (A (rc))] (by decide) rfl (Nat.le_of_ble_eq_true rfl) ?_
  intro p e s m below meth c ls X hr hlk hnm hsz hW hl
  have hl : lv_has ls 4 [(0, .ref (A (i))), (1, .int (iI ((nn : Int)))), (2, .ref (A (rc)))] := hl
  have lk_0 : ∀ w ∈ wsX70, w ∈ wsX7_meanInto := by decide +kernel
  have lk_1 : Cond.fieldLink RX7 22 (TX7 2).1 (TX7 2).2.1 (TX7 2).2.2.1 ∈ wsX7_meanInto := by decide +kernel
  obtain ⟨h0, h2, hfy⟩ := hC
  refine lv_aload_n X.1 X.2.1 dX7_meanInto_0 rfl (lv_at hl 0 rfl) ?_
  refine lv_iload_n X.1 X.2.1 dX7_meanInto_1 rfl (lv_at hl 1 rfl) ?_
  refine x_iconst X dX7_meanInto_2 ?_
  refine x_cv (x_runV (k := 2) (As := [.int (iI ((nn : Int))), .int (iI (1))]) (rest := []) X hW (c_X7_comeBackTo l E A n _ g i fy fp py nn 1 hi ⟨h0, h2, hfy⟩ h1 hfp hX3 hX5 hXY hn1 hn2 (by omega) hn1) (by omega) h0 rfl gX7_meanInto_X7_comeBackTo rfl rfl rfl (by decide +kernel) ⟨by decide, by decide⟩ rfl hl.1 rfl (Nat.le_of_ble_eq_true rfl) dX7_meanInto_3 ⟨Nat.zero_le _, Nat.zero_le _⟩) hW (fun g_3 H locs hp_3 hW => ?_)
  obtain ⟨n_3, hY, n_5, hXY, hf_3⟩ := hp_3
  have h0 : g_3 i = .inr (7, [.ref (A (i + 1)), .ref (A (i + 2)), .ref (A (i + 3)), .ref (A (i + 5))]) := by rw [hf_3 _ (by omega)]; exact h0
  have h1 : g_3 (i + 1) = aI E 21 fp := by rw [hf_3 _ (by omega)]; exact h1
  have h2 : g_3 (i + 2) = aR E 3 21 fy := by rw [hf_3 _ (by omega)]; exact h2
  have hC : RkC E A g_3 i fy := ⟨h0, h2, hfy⟩
  refine lv_aload_n X.1 X.2.1 dX7_meanInto_6 rfl (lv_at hl 0 rfl) ?_
  refine x_iconst X dX7_meanInto_7 ?_
  have hcp := rk_cap (py := py) hn2 (fun s a b => (hfp s (by omega)).2) (nn - 1) (by omega)
  have h45 := rk_45 (d := nn - 1) (by omega)
  refine x_cv (x_runV (k := 1) (As := [.int (iI (1))]) (rest := []) X hW (c_X7_goAhead l E A n _ g_3 i fy 1 (rkN py nn (nn - 1)) (rkY py nn (nn - 1)) hi hC (by omega) (by omega) n_3 (fun s a b => hY s a b) n_5 (by omega) (fun s a b => Nat.le_trans (hcp.2 s a (by omega)) h45)) (by omega) h0 rfl gX7_meanInto_X7_goAhead rfl rfl rfl (by decide +kernel) ⟨by decide, by decide⟩ rfl hl.1 rfl (Nat.le_of_ble_eq_true rfl) dX7_meanInto_8 ⟨Nat.zero_le _, Nat.zero_le _⟩) hW (fun g_8 H locs hp_8 hW => ?_)
  obtain ⟨n_3, n_5, hf_8⟩ := hp_8
  have n_3 : NatV E A g_8 (i + 3) (rkN py nn nn) := by rw [show nn = nn - 1 + 1 from by omega]; show NatV E A _ (i + 3) (gaS (rkN py (nn - 1 + 1) (nn - 1)) (rkY py (nn - 1 + 1) (nn - 1)) (nn - 1 + 1 - (nn - 1))); rw [show nn - 1 + 1 = nn from by omega, show nn - (nn - 1) = 1 from by omega]; exact n_3
  have h0 : g_8 i = .inr (7, [.ref (A (i + 1)), .ref (A (i + 2)), .ref (A (i + 3)), .ref (A (i + 5))]) := by rw [hf_8 _ (by omega)]; exact h0
  have h1 : g_8 (i + 1) = aI E 21 fp := by rw [hf_8 _ (by omega)]; exact h1
  have h2 : g_8 (i + 2) = aR E 3 21 fy := by rw [hf_8 _ (by omega)]; exact h2
  have hXY : ∀ y, y < 21 → NatX E A g_8 (i + 7 + 2 * y) := fun y a => (hXY y a).frame (hf_8 _ (by omega)) (hf_8 _ (by omega))
  refine lv_aload_n X.1 X.2.1 dX7_meanInto_11 rfl (lv_at hl 2 rfl) ?_
  refine lv_aload_n X.1 X.2.1 dX7_meanInto_12 rfl (lv_at hl 0 rfl) ?_
  refine x_get (C := RX7) (T := TX7) (N := 4) X hW (by omega) h0 rfl lk_0 2 (by decide) lk_1 rfl dX7_meanInto_13 ?_
  have hRX := hRX.frame (fun j h1 h2 => (hf_8 j (by omega)).trans (hf_3 j (by omega)))
  have hR2 := hRX
  obtain ⟨⟨zr, hr0⟩, _⟩ := hR2
  refine x_cv (x_runV (k := 1) (As := [.ref (A (i + 3))]) (rest := []) X hW (c_X8_put l E A n _ g_8 rc (i + 3) (rkN py nn nn) hrc (by omega) (by omega) hRX n_3) (by omega) hr0 rfl gX7_meanInto_X8_put rfl rfl rfl (by decide +kernel) ⟨by decide, by decide⟩ rfl hl.1 rfl (Nat.le_of_ble_eq_true rfl) dX7_meanInto_16 ⟨Nat.zero_le _, Nat.zero_le _⟩) hW (fun g_16 H locs hp_16 hW => ?_)
  obtain ⟨hRv, hf_16⟩ := hp_16
  have hRv : ResV E A g_16 rc (rdT ((rkN py nn nn : Nat) : Int) (pr (fun k => k + 2) 0)) (rdB ((rkN py nn nn : Nat) : Int) (pr (fun k => k + 2) 0)) := by show ResV E A _ rc (rdT _ 1) (rdB _ 1); rw [rdT_1, rdB_1]; exact hRv
  have hk0 : g_16 i = .inr (7, [.ref (A (i + 1)), .ref (A (i + 2)), .ref (A (i + 3)), .ref (A (i + 5))]) ∧ g_16 (i + 1) = aI E 21 fp ∧ g_16 (i + 2) = aR E 3 21 fy ∧ NatX E A g_16 (i + 3) ∧ NatX E A g_16 (i + 5) ∧ ∀ y, y < 21 → NatX E A g_16 (i + 7 + 2 * y) := ⟨(hf_16 _ (by omega)).trans h0, (hf_16 _ (by omega)).trans h1, (hf_16 _ (by omega)).trans h2, n_3.any.frame (hf_16 _ (by omega)) (hf_16 _ (by omega)), n_5.frame (hf_16 _ (by omega)) (hf_16 _ (by omega)), fun y a => (hXY y a).frame (hf_16 _ (by omega)) (hf_16 _ (by omega))⟩
  have hfz : ∀ j, ((j < i ∨ i + 48 < j) ∧ (j < rc ∨ rc + 8 < j)) → g_16 j = g j := fun j hj => (hf_16 j hj.2).trans ((hf_8 j (by omega)).trans (hf_3 j (by omega)))
  refine x_iconst X dX7_meanInto_19 ?_
  refine x_seti (((0 + 2 : Nat) : Int)) rfl ?_
  refine lv_istore_n (lv' := [(3, .int (iI (((0 + 2 : Nat) : Int)))), (0, .ref (A (i))), (1, .int (iI ((nn : Int)))), (2, .ref (A (rc)))]) X.1 X.2.1 dX7_meanInto_20 rfl hl (by decide) rfl (fun ls hl => ?_)
  have loop_21 : ∀ (fuel : Nat) (u : Nat) (gv : Nat → va_E) (H : Heap) (locs : List Loc) (ls : Array Slot), (nn - u) < fuel → (u ≤ nn - 1) → (ResV E A gv rc (rdT ((rkN py nn nn : Nat) : Int) (pr (fun k => k + 2) u)) (rdB ((rkN py nn nn : Nat) : Int) (pr (fun k => k + 2) u))) → (gv i = .inr (7, [.ref (A (i + 1)), .ref (A (i + 2)), .ref (A (i + 3)), .ref (A (i + 5))]) ∧ gv (i + 1) = aI E 21 fp ∧ gv (i + 2) = aR E 3 21 fy ∧ NatX E A gv (i + 3) ∧ NatX E A gv (i + 5) ∧ ∀ y, y < 21 → NatX E A gv (i + 7 + 2 * y)) → (∀ j, ((j < i ∨ i + 48 < j) ∧ (j < rc ∨ rc + 8 < j)) → gv j = g j) → wH E (wF A n sz) A n s gv H locs → lv_has ls 4 [(1, .int (iI ((nn : Int)))), (2, .ref (A (rc))), (3, .int (iI (((u + 2 : Nat) : Int))))] → W p l e ({ frames := 5, cells := 0, slots := 0, locals := 220 } : Room) s m [.ref (A (i)), .int (iI ((nn : Int))), .ref (A (rc))].toArray below meth c H locs 0 0 (MQ below (va_Qv (fun g' => ResV E A g' rc (rdT ((rkN py nn nn : Nat) : Int) (pr (fun k => k + 2) (nn - 1))) (rdB ((rkN py nn nn : Nat) : Int) (pr (fun k => k + 2) (nn - 1))) ∧ (g' i = .inr (7, [.ref (A (i + 1)), .ref (A (i + 2)), .ref (A (i + 3)), .ref (A (i + 5))]) ∧ g' (i + 1) = aI E 21 fp ∧ g' (i + 2) = aR E 3 21 fy ∧ NatX E A g' (i + 3) ∧ NatX E A g' (i + 5) ∧ ∀ y, y < 21 → NatX E A g' (i + 7 + 2 * y)) ∧ ∀ j, ((j < i ∨ i + 48 < j) ∧ (j < rc ∨ rc + 8 < j)) → g' j = g j) (wAt E A n) (wF A n sz)) [.ref (A (i)), .int (iI ((nn : Int))), .ref (A (rc))].toArray s 0 0 (wF A n sz)) (F0 m 21 ls []) := by
    intro fuel
    induction fuel with
    | zero => intro u gv H locs ls hm; exact absurd hm (Nat.not_lt_zero _)
    | succ fuel ih_21 =>
      intro u gv H locs ls hm hu hRv hk0 hfz hW hl
      have hr0 := hRv.1
      refine lv_iload_n X.1 X.2.1 dX7_meanInto_21 rfl (lv_at hl 2 rfl) ?_
      refine lv_iload_n X.1 X.2.1 dX7_meanInto_22 rfl (lv_at hl 0 rfl) ?_
      refine x_icmp_gt (tgt := 37) X ⟨by omega, by omega⟩ ⟨by omega, by omega⟩ dX7_meanInto_23 (by decide) (fun b_23 => ?_) (fun b_23 => ?_)
      · exact x_vret X hr hlk hW (⟨by rw [show nn - 1 = u from by omega]; exact hRv, hk0, hfz⟩) dX7_meanInto_37
      · have hu9 : u + 2 ≤ nn := by omega
        have hpk : pr (fun k => k + 2) u * (u + 2) < 10 ^ 54 := Nat.lt_of_le_of_lt (Nat.le_trans (pr_le (f := (fun k => k + 2)) (M := 20) (u + 1) (fun j hj => (by omega : j + 2 ≤ 20))) (Nat.pow_le_pow_right (by decide) (show u + 1 ≤ 20 by omega))) (by decide)
        refine lv_aload_n X.1 X.2.1 dX7_meanInto_26 rfl (lv_at hl 1 rfl) ?_
        refine lv_iload_n X.1 X.2.1 dX7_meanInto_27 rfl (lv_at hl 2 rfl) ?_
        refine x_cv (x_runV (k := 1) (As := [.int (iI (((u + 2 : Nat) : Int)))]) (rest := []) X hW (c_X8_over l E A n _ gv rc ((rkN py nn nn : Nat) : Int) (pr (fun k => k + 2) u) (u + 2) hrc (pr_pos u (fun j hj => by omega)) (by omega) (by omega) hRv hpk) (by omega) hr0 rfl gX7_meanInto_X8_over rfl rfl rfl (by decide +kernel) ⟨by decide, by decide⟩ rfl hl.1 rfl (Nat.le_of_ble_eq_true rfl) dX7_meanInto_28 ⟨Nat.zero_le _, Nat.zero_le _⟩) hW (fun g_28 H locs hp_28 hW => ?_)
        obtain ⟨hRv, hf_28⟩ := hp_28
        obtain ⟨k1, k2, k3, k4, k5, k6⟩ := hk0
        have hk0 : g_28 i = .inr (7, [.ref (A (i + 1)), .ref (A (i + 2)), .ref (A (i + 3)), .ref (A (i + 5))]) ∧ g_28 (i + 1) = aI E 21 fp ∧ g_28 (i + 2) = aR E 3 21 fy ∧ NatX E A g_28 (i + 3) ∧ NatX E A g_28 (i + 5) ∧ ∀ y, y < 21 → NatX E A g_28 (i + 7 + 2 * y) := ⟨(hf_28 _ (by omega)).trans k1, (hf_28 _ (by omega)).trans k2, (hf_28 _ (by omega)).trans k3, k4.frame (hf_28 _ (by omega)) (hf_28 _ (by omega)), k5.frame (hf_28 _ (by omega)) (hf_28 _ (by omega)), fun y a => (k6 y a).frame (hf_28 _ (by omega)) (hf_28 _ (by omega))⟩
        have hfz : ∀ j, ((j < i ∨ i + 48 < j) ∧ (j < rc ∨ rc + 8 < j)) → g_28 j = g j := fun j hj => (hf_28 j hj.2).trans (hfz j hj)
        refine lv_iinc (v := iI (((u + 1 + 2 : Nat) : Int))) (lv' := [(3, .int (iI (((u + 1 + 2 : Nat) : Int)))), (1, .int (iI ((nn : Int)))), (2, .ref (A (rc)))]) X.1 X.2.1 dX7_meanInto_31 hl (k := 2) rfl (by rw [show (Int32.ofInt (1)) = iI (1) from rfl, iI_add]; congr 1) (by decide) rfl (fun ls hl => ?_)
        refine lv_goto (tgt := 21) X.1 X.2.1 dX7_meanInto_34 (by decide) ?_
        exact ih_21 (u + 1) g_28 _ _ _ (by omega) (by omega) hRv hk0 hfz hW (lv_sub hl [1, 2, 0] rfl)
  exact loop_21 _ 0 g_16 _ _ _ (Nat.lt_succ_self _) (Nat.zero_le _) hRv hk0 hfz hW (lv_sub hl [2, 3, 0] rfl)

set_option maxHeartbeats 4000000 in
set_option maxRecDepth 100000 in
/-- isTaken -/
theorem c_X7_isTaken (l : Launch) (E : wE) (A : Nat → Nat) (n sz : Nat) (g : Nat → va_E) (i : Nat) (fy : Nat → Option Nat) (fp : Nat → Int32) (py : Nat → Nat) (nn jj ss : Nat) (hi : i + 48 < n) (hC : RkC E A g i fy) (h1 : g (i + 1) = aI E 21 fp) (hfp : ∀ k, k < 21 → fp k = iI ((py k : Nat) : Int) ∧ py k ≤ 1000) (hX3 : NatX E A g (i + 3)) (hX5 : NatX E A g (i + 5)) (hXY : ∀ y, y < 21 → NatX E A g (i + 7 + 2 * y)) (hn1 : 1 ≤ nn) (hn2 : nn ≤ 20) (hj1 : 1 ≤ jj) (hj2 : jj ≤ nn) (hs1 : 1 ≤ ss) (hs2 : ss ≤ jj) : Met l yX7_isTaken wsX7_isTaken ({ frames := 5, cells := 0, slots := 0, locals := 220 } : Room) (va_Pc [.ref (A (i)), .int (iI ((nn : Int))), .int (iI ((jj : Int))), .int (iI ((ss : Int)))] (wPre E A n sz g)) (va_Qi (fun r g' => r = iI (if jj = nn then 1 else if rkN py nn (nn - jj) ≤ rkY py nn (nn - jj) ss then 1 else 0) ∧ (g' i = .inr (7, [.ref (A (i + 1)), .ref (A (i + 2)), .ref (A (i + 3)), .ref (A (i + 5))]) ∧ g' (i + 1) = aI E 21 fp ∧ g' (i + 2) = aR E 3 21 fy ∧ NatX E A g' (i + 3) ∧ NatX E A g' (i + 5) ∧ ∀ y, y < 21 → NatX E A g' (i + 7 + 2 * y)) ∧ ∀ j, (j < i ∨ i + 48 < j) → g' j = g j) (wAt E A n) (wF A n sz)) 0 0 (wF A n sz) := by
  refine x_met (cc := cX7_isTaken) (maxL := 4) (ret := (some .boolean)) [.ref (A (i)), .int (iI ((nn : Int))), .int (iI ((jj : Int))), .int (iI ((ss : Int)))] (by decide) rfl (Nat.le_of_ble_eq_true rfl) ?_
  intro p e s m below meth c ls X hr hlk hnm hsz hW hl
  have hl : lv_has ls 4 [(0, .ref (A (i))), (1, .int (iI ((nn : Int)))), (2, .int (iI ((jj : Int)))), (3, .int (iI ((ss : Int))))] := hl
  have lk_0 : Cond.constantLong RX7 29 (20) ∈ wsX7_isTaken := by decide +kernel
  have lk_1 : Cond.initialized yX10_isWithin.cls ∈ wsX7_isTaken := by decide +kernel
  have lk_2 : Cond.static yX10_isWithin ∈ wsX7_isTaken := by decide +kernel
  have lk_3 : ∀ w ∈ wsX70, w ∈ wsX7_isTaken := by decide +kernel
  have lk_4 : Cond.fieldLink RX7 17 (TX7 1).1 (TX7 1).2.1 (TX7 1).2.2.1 ∈ wsX7_isTaken := by decide +kernel
  have lk_5 : Cond.fieldLink RX7 22 (TX7 2).1 (TX7 2).2.1 (TX7 2).2.2.1 ∈ wsX7_isTaken := by decide +kernel
  obtain ⟨h0, h2, hfy⟩ := hC
  refine lv_iload_n X.1 X.2.1 dX7_isTaken_0 rfl (lv_at hl 2 rfl) ?_
  refine lv_iload_n X.1 X.2.1 dX7_isTaken_1 rfl (lv_at hl 1 rfl) ?_
  refine x_icmp_ge (tgt := 17) X ⟨by omega, by omega⟩ ⟨by omega, by omega⟩ dX7_isTaken_2 (by decide) (fun b_2 => ?_) (fun b_2 => ?_)
  · refine x_iconst X dX7_isTaken_17 ?_
    exact x_zret X hr hlk (by decide) hW (⟨by rw [if_pos (by omega)], ⟨h0, h1, h2, hX3, hX5, hXY⟩, fun _ _ => rfl⟩) dX7_isTaken_18
  · refine lv_iload_n X.1 X.2.1 dX7_isTaken_5 rfl (lv_at hl 3 rfl) ?_
    refine x_i2l X ⟨by omega, by omega⟩ dX7_isTaken_6 ?_
    refine x_lconst X 1 (by decide) dX7_isTaken_7 ?_
    refine x_ldc2 X (20) (by decide) lk_0 dX7_isTaken_8 ?_
    refine x_ci (x_runSN (k := 3) (As := [.long (lI ((ss : Int))), .long (lI (1)), .long (lI (20))]) (rest := []) X hW (c_X10_isWithin l E A n _ g (ss : Int) 1 20 ⟨by omega, by omega⟩ ⟨by decide, by decide⟩ ⟨by decide, by decide⟩) gX7_isTaken_X10_isWithin_n31 rfl rfl rfl (by decide +kernel) lk_1 lk_2 (by decide +kernel) ⟨by decide, by decide⟩ rfl hl.1 rfl (Nat.le_of_ble_eq_true rfl) dX7_isTaken_11 ⟨Nat.zero_le _, Nat.zero_le _⟩) hW (fun r_11 g_11 H locs hp_11 hW => ?_)
    obtain ⟨hr_11, he_11⟩ := hp_11
    rw [he_11] at hW
    subst hr_11
    refine x_if_ne (tgt := 19) X ⟨by split <;> decide, by split <;> decide⟩ dX7_isTaken_14 (by decide) (fun b_14 => ?_) (fun b_14 => ?_)
    · refine lv_aload_n X.1 X.2.1 dX7_isTaken_19 rfl (lv_at hl 0 rfl) ?_
      refine lv_iload_n X.1 X.2.1 dX7_isTaken_20 rfl (lv_at hl 1 rfl) ?_
      refine lv_iload_n X.1 X.2.1 dX7_isTaken_21 rfl (lv_at hl 2 rfl) ?_
      refine x_cv (x_runV (k := 2) (As := [.int (iI ((nn : Int))), .int (iI ((jj : Int)))]) (rest := []) X hW (c_X7_comeBackTo l E A n _ g i fy fp py nn jj hi ⟨h0, h2, hfy⟩ h1 hfp hX3 hX5 hXY hn1 hn2 hj1 hj2) (by omega) h0 rfl gX7_isTaken_X7_comeBackTo rfl rfl rfl (by decide +kernel) ⟨by decide, by decide⟩ rfl hl.1 rfl (Nat.le_of_ble_eq_true rfl) dX7_isTaken_22 ⟨Nat.zero_le _, Nat.zero_le _⟩) hW (fun g_22 H locs hp_22 hW => ?_)
      obtain ⟨n_3, hY, n_5, hXY, hf_22⟩ := hp_22
      have h0 : g_22 i = .inr (7, [.ref (A (i + 1)), .ref (A (i + 2)), .ref (A (i + 3)), .ref (A (i + 5))]) := by rw [hf_22 _ (by omega)]; exact h0
      have h1 : g_22 (i + 1) = aI E 21 fp := by rw [hf_22 _ (by omega)]; exact h1
      have h2 : g_22 (i + 2) = aR E 3 21 fy := by rw [hf_22 _ (by omega)]; exact h2
      have hC : RkC E A g_22 i fy := ⟨h0, h2, hfy⟩
      refine lv_aload_n X.1 X.2.1 dX7_isTaken_25 rfl (lv_at hl 0 rfl) ?_
      refine x_get (C := RX7) (T := TX7) (N := 4) X hW (by omega) h0 rfl lk_3 1 (by decide) lk_4 rfl dX7_isTaken_26 ?_
      refine lv_iload_n X.1 X.2.1 dX7_isTaken_29 rfl (lv_at hl 3 rfl) ?_
      refine x_aald X hW (by omega) h2 rfl (j := i + 7 + 2 * ss) ss (by omega) (by omega) (by decide) (hfy ss (by omega)) dX7_isTaken_30 ?_
      refine lv_aload_n X.1 X.2.1 dX7_isTaken_31 rfl (lv_at hl 0 rfl) ?_
      refine x_get (C := RX7) (T := TX7) (N := 4) X hW (by omega) h0 rfl lk_3 2 (by decide) lk_5 rfl dX7_isTaken_32 ?_
      have nS := hY ss hs1 hs2
      refine x_ci (x_runV (k := 1) (As := [.ref (A (i + 3))]) (rest := []) X hW (c_X5_against l E A n _ g_22 (i + 7 + 2 * ss) (i + 3) (rkY py nn (nn - jj) ss) (rkN py nn (nn - jj)) (by omega) (by omega) nS n_3) (by omega) nS.2.1 rfl gX7_isTaken_X5_against rfl rfl rfl (by decide +kernel) ⟨by decide, by decide⟩ rfl hl.1 rfl (Nat.le_of_ble_eq_true rfl) dX7_isTaken_35 ⟨Nat.zero_le _, Nat.zero_le _⟩) hW (fun r_35 g_35 H locs hp_35 hW => ?_)
      obtain ⟨hr_35, he_35⟩ := hp_35
      rw [he_35] at hW
      subst hr_35
      refine x_if_lt (tgt := 45) X ⟨by repeat (first | decide | split), by repeat (first | decide | split)⟩ dX7_isTaken_38 (by decide) (fun b_38 => ?_) (fun b_38 => ?_)
      · have hcl : ¬ rkN py nn (nn - jj) ≤ rkY py nn (nn - jj) ss := fun z9 => by rw [if_neg (by omega)] at b_38; split at b_38 <;> omega
        refine x_iconst X dX7_isTaken_45 ?_
        exact x_zret X hr hlk (by decide) hW (⟨by rw [if_neg (by omega), if_neg hcl], ⟨h0, h1, h2, n_3.any, n_5, hXY⟩, fun j hj => hf_22 j (by omega)⟩) dX7_isTaken_46
      · have hcg : rkN py nn (nn - jj) ≤ rkY py nn (nn - jj) ss := Decidable.byContradiction (fun z9 => b_38 (by rw [if_pos (by omega)]; decide))
        refine x_iconst X dX7_isTaken_41 ?_
        refine lv_goto (tgt := 46) X.1 X.2.1 dX7_isTaken_42 (by decide) ?_
        exact x_zret X hr hlk (by decide) hW (⟨by rw [if_neg (by omega), if_pos hcg], ⟨h0, h1, h2, n_3.any, n_5, hXY⟩, fun j hj => hf_22 j (by omega)⟩) dX7_isTaken_46
    · exact absurd b_14 (by rw [if_pos ⟨by omega, by omega⟩]; decide)
