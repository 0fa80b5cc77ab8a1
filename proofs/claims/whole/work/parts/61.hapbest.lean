set_option maxHeartbeats 4000000 in
set_option maxRecDepth 100000 in
/-- bestStart -/
theorem c_X4_bestStart (l : Launch) (E : wE) (A : Nat → Nat) (n sz : Nat) (g : Nat → va_E) (i hz : Nat) (ta tb : Nat → Nat) (rc : Nat) (hi : i + 8 < n) (hV : HapV E A g i hz ta tb) (hrc : rc + 8 < n) (hRX : ResX E A g rc) (hdr : rc + 8 < i ∨ i + 8 < rc) : Met l yX4_bestStart wsX4_bestStart ({ frames := 4, cells := 0, slots := 0, locals := 200 } : Room) (va_Pc [.ref (A (i)), .ref (A (rc))] (wPre E A n sz g)) (va_Qi (fun r g' => (hz = 0 → r = iI (-1) ∧ g' = g) ∧ (0 < hz → r = iI ((hpS ta tb hz hz : Nat) : Int) ∧ ResV E A g' rc (rdT ((hpM ta tb hz hz : Nat) : Int) (pr tb hz)) (rdB ((hpM ta tb hz hz : Nat) : Int) (pr tb hz)) ∧ HapV E A g' i hz ta tb ∧ ∀ j, ((j < i ∨ i + 8 < j) ∧ (j < rc ∨ rc + 8 < j)) → g' j = g j)) (wAt E A n) (wF A n sz)) 0 0 (wF A n sz) := by
  refine x_met (cc := cX4_bestStart) (maxL := 4) (ret := (some .int)) [.ref (A (i)), .ref (A (rc))] (by decide) rfl (Nat.le_of_ble_eq_true rfl) ?_
  intro p e s m below meth c ls X hr hlk hnm hsz hW hl
  have hl : lv_has ls 4 [(0, .ref (A (i))), (1, .ref (A (rc)))] := hl
  have lk_0 : ∀ w ∈ wsX40, w ∈ wsX4_bestStart := by decide +kernel
  have lk_1 : Cond.fieldLink RX4 18 (TX4 2).1 (TX4 2).2.1 (TX4 2).2.2.1 ∈ wsX4_bestStart := by decide +kernel
  have lk_2 : Cond.fieldLink RX4 25 (TX4 3).1 (TX4 3).2.1 (TX4 3).2.2.1 ∈ wsX4_bestStart := by decide +kernel
  have lk_3 : Cond.fieldLink RX4 29 (TX4 4).1 (TX4 4).2.1 (TX4 4).2.2.1 ∈ wsX4_bestStart := by decide +kernel
  have lk_4 : Cond.fieldLink RX4 32 (TX4 5).1 (TX4 5).2.1 (TX4 5).2.2.1 ∈ wsX4_bestStart := by decide +kernel
  have lk_5 : Cond.fieldLink RX4 15 (TX4 1).1 (TX4 1).2.1 (TX4 1).2.2.1 ∈ wsX4_bestStart := by decide +kernel
  have hVg := hV
  obtain ⟨h0, hz20, hab, ⟨f, h, h1, h2, hf⟩, n_3, n_5, n_7⟩ := hV
  have h0g := h0
  have h1g := h1
  have h2g := h2
  have hfr : ∀ j, (j ≠ i + 4 ∧ j ≠ i + 6 ∧ j ≠ i + 8) → g j = g j := fun _ _ => rfl
  have hcap := hp_cap hab
  refine lv_aload_n X.1 X.2.1 dX4_bestStart_0 rfl (lv_at hl 0 rfl) ?_
  refine x_get (C := RX4) (T := TX4) (N := 6) X hW (by omega) h0 rfl lk_0 2 (by decide) lk_1 rfl dX4_bestStart_1 ?_
  refine x_if_ne (tgt := 9) X ⟨by omega, by omega⟩ dX4_bestStart_4 (by decide) (fun b_4 => ?_) (fun b_4 => ?_)
  · have hz0 : 0 < hz := by omega
    refine lv_aload_n X.1 X.2.1 dX4_bestStart_9 rfl (lv_at hl 0 rfl) ?_
    refine x_get (C := RX4) (T := TX4) (N := 6) X hW (by omega) h0 rfl lk_0 2 (by decide) lk_1 rfl dX4_bestStart_10 ?_
    refine x_iconst X dX4_bestStart_13 ?_
    refine x_isub X dX4_bestStart_14 ?_
    refine x_seti (((hpS ta tb hz (hz - hz) : Nat) : Int)) (by rw [Nat.sub_self]; show _ = ((hz - 1 : Nat) : Int); omega) ?_
    refine lv_istore_n (lv' := [(2, .int (iI (((hpS ta tb hz (hz - hz) : Nat) : Int)))), (0, .ref (A (i))), (1, .ref (A (rc)))]) X.1 X.2.1 dX4_bestStart_15 rfl hl (by decide) rfl (fun ls hl => ?_)
    refine lv_aload_n X.1 X.2.1 dX4_bestStart_16 rfl (lv_at hl 1 rfl) ?_
    refine x_get (C := RX4) (T := TX4) (N := 6) X hW (by omega) h0 rfl lk_0 3 (by decide) lk_2 rfl dX4_bestStart_17 ?_
    refine x_lconst X 0 (by decide) dX4_bestStart_20 ?_
    refine x_cv (x_runV (k := 1) (As := [.long (lI (0))]) (rest := []) X hW (c_X5_put l E A n _ g (i + 3) 0 (by omega) n_3 (by decide)) (by omega) n_3.1 rfl gX4_bestStart_X5_put rfl rfl rfl (by decide +kernel) ⟨by decide, by decide⟩ rfl hl.1 rfl (Nat.le_of_ble_eq_true rfl) dX4_bestStart_21 ⟨Nat.zero_le _, Nat.zero_le _⟩) hW (fun g_21 H locs hp_21 hW => ?_)
    obtain ⟨nv_21, hf_21⟩ := hp_21
    have h0 : g_21 i = .inr (4, [.ref (A (i + 1)), .ref (A (i + 2)), .int (iI ((hz : Int))), .ref (A (i + 3)), .ref (A (i + 5)), .ref (A (i + 7))]) := by rw [hf_21 _ (by omega)]; exact h0
    have h1 : g_21 (i + 1) = aI E 20 f := by rw [hf_21 _ (by omega)]; exact h1
    have h2 : g_21 (i + 2) = aI E 20 h := by rw [hf_21 _ (by omega)]; exact h2
    have n_5 : NatX E A g_21 (i + 5) := n_5.frame (hf_21 _ (by omega)) (hf_21 _ (by omega))
    have n_7 : NatX E A g_21 (i + 7) := n_7.frame (hf_21 _ (by omega)) (hf_21 _ (by omega))
    have n_3 : NatV E A g_21 (i + 3) 0 := nv_21
    have hfr : ∀ j, (j ≠ i + 4 ∧ j ≠ i + 6 ∧ j ≠ i + 8) → g_21 j = g j := fun j hj => (hf_21 j (by omega)).trans (hfr j hj)
    refine lv_aload_n X.1 X.2.1 dX4_bestStart_24 rfl (lv_at hl 1 rfl) ?_
    refine x_get (C := RX4) (T := TX4) (N := 6) X hW (by omega) h0 rfl lk_0 4 (by decide) lk_3 rfl dX4_bestStart_25 ?_
    refine x_lconst X 1 (by decide) dX4_bestStart_28 ?_
    refine x_cv (x_runV (k := 1) (As := [.long (lI (1))]) (rest := []) X hW (c_X5_put l E A n _ g_21 (i + 5) 1 (by omega) n_5 (by decide)) (by omega) n_5.1 rfl gX4_bestStart_X5_put rfl rfl rfl (by decide +kernel) ⟨by decide, by decide⟩ rfl hl.1 rfl (Nat.le_of_ble_eq_true rfl) dX4_bestStart_29 ⟨Nat.zero_le _, Nat.zero_le _⟩) hW (fun g_29 H locs hp_29 hW => ?_)
    obtain ⟨nv_29, hf_29⟩ := hp_29
    have h0 : g_29 i = .inr (4, [.ref (A (i + 1)), .ref (A (i + 2)), .int (iI ((hz : Int))), .ref (A (i + 3)), .ref (A (i + 5)), .ref (A (i + 7))]) := by rw [hf_29 _ (by omega)]; exact h0
    have h1 : g_29 (i + 1) = aI E 20 f := by rw [hf_29 _ (by omega)]; exact h1
    have h2 : g_29 (i + 2) = aI E 20 h := by rw [hf_29 _ (by omega)]; exact h2
    have n_3 : NatV E A g_29 (i + 3) 0 := n_3.frame (hf_29 _ (by omega)) (hf_29 _ (by omega))
    have n_7 : NatX E A g_29 (i + 7) := n_7.frame (hf_29 _ (by omega)) (hf_29 _ (by omega))
    have n_5 : NatV E A g_29 (i + 5) 1 := nv_29
    have hfr : ∀ j, (j ≠ i + 4 ∧ j ≠ i + 6 ∧ j ≠ i + 8) → g_29 j = g j := fun j hj => (hf_29 j (by omega)).trans (hfr j hj)
    refine lv_aload_n X.1 X.2.1 dX4_bestStart_32 rfl (lv_at hl 1 rfl) ?_
    refine x_get (C := RX4) (T := TX4) (N := 6) X hW (by omega) h0 rfl lk_0 5 (by decide) lk_4 rfl dX4_bestStart_33 ?_
    refine x_lconst X 0 (by decide) dX4_bestStart_36 ?_
    refine x_cv (x_runV (k := 1) (As := [.long (lI (0))]) (rest := []) X hW (c_X5_put l E A n _ g_29 (i + 7) 0 (by omega) n_7 (by decide)) (by omega) n_7.1 rfl gX4_bestStart_X5_put rfl rfl rfl (by decide +kernel) ⟨by decide, by decide⟩ rfl hl.1 rfl (Nat.le_of_ble_eq_true rfl) dX4_bestStart_37 ⟨Nat.zero_le _, Nat.zero_le _⟩) hW (fun g_37 H locs hp_37 hW => ?_)
    obtain ⟨nv_37, hf_37⟩ := hp_37
    have h0 : g_37 i = .inr (4, [.ref (A (i + 1)), .ref (A (i + 2)), .int (iI ((hz : Int))), .ref (A (i + 3)), .ref (A (i + 5)), .ref (A (i + 7))]) := by rw [hf_37 _ (by omega)]; exact h0
    have h1 : g_37 (i + 1) = aI E 20 f := by rw [hf_37 _ (by omega)]; exact h1
    have h2 : g_37 (i + 2) = aI E 20 h := by rw [hf_37 _ (by omega)]; exact h2
    have n_3 : NatV E A g_37 (i + 3) 0 := n_3.frame (hf_37 _ (by omega)) (hf_37 _ (by omega))
    have n_5 : NatV E A g_37 (i + 5) 1 := n_5.frame (hf_37 _ (by omega)) (hf_37 _ (by omega))
    have n_7 : NatV E A g_37 (i + 7) 0 := nv_37
    have hfr : ∀ j, (j ≠ i + 4 ∧ j ≠ i + 6 ∧ j ≠ i + 8) → g_37 j = g j := fun j hj => (hf_37 j (by omega)).trans (hfr j hj)
    refine lv_aload_n X.1 X.2.1 dX4_bestStart_40 rfl (lv_at hl 1 rfl) ?_
    refine x_get (C := RX4) (T := TX4) (N := 6) X hW (by omega) h0 rfl lk_0 2 (by decide) lk_1 rfl dX4_bestStart_41 ?_
    refine x_iconst X dX4_bestStart_44 ?_
    refine x_isub X dX4_bestStart_45 ?_
    refine x_seti (((hz : Nat) : Int) - 1) rfl ?_
    refine lv_istore_n (lv' := [(3, .int (iI (((hz : Nat) : Int) - 1))), (2, .int (iI (((hpS ta tb hz (hz - hz) : Nat) : Int)))), (0, .ref (A (i))), (1, .ref (A (rc)))]) X.1 X.2.1 dX4_bestStart_46 rfl hl (by decide) rfl (fun ls hl => ?_)
    have loop_47 : ∀ (fuel : Nat) (k : Nat) (gw : Nat → va_E) (H : Heap) (locs : List Loc) (ls : Array Slot), (k) < fuel → (k ≤ hz) → (NatV E A gw (i + 3) (hpW ta tb hz (hz - k))) → (NatV E A gw (i + 5) (hpQ ta tb hz (hz - k))) → (NatV E A gw (i + 7) (hpM ta tb hz (hz - k))) → (∀ j, (j ≠ i + 4 ∧ j ≠ i + 6 ∧ j ≠ i + 8) → gw j = g j) → wH E (wF A n sz) A n s gw H locs → lv_has ls 4 [(0, .ref (A (i))), (1, .ref (A (rc))), (2, .int (iI (((hpS ta tb hz (hz - k) : Nat) : Int)))), (3, .int (iI ((k : Int) - 1)))] → W p l e ({ frames := 4, cells := 0, slots := 0, locals := 200 } : Room) s m [.ref (A (i)), .ref (A (rc))].toArray below meth c H locs 0 0 (MQ below (va_Qi (fun r g' => (hz = 0 → r = iI (-1) ∧ g' = g) ∧ (0 < hz → r = iI ((hpS ta tb hz hz : Nat) : Int) ∧ ResV E A g' rc (rdT ((hpM ta tb hz hz : Nat) : Int) (pr tb hz)) (rdB ((hpM ta tb hz hz : Nat) : Int) (pr tb hz)) ∧ HapV E A g' i hz ta tb ∧ ∀ j, ((j < i ∨ i + 8 < j) ∧ (j < rc ∨ rc + 8 < j)) → g' j = g j)) (wAt E A n) (wF A n sz)) [.ref (A (i)), .ref (A (rc))].toArray s 0 0 (wF A n sz)) (F0 m 47 ls []) := by
      intro fuel
      induction fuel with
      | zero => intro k gw H locs ls hm; exact absurd hm (Nat.not_lt_zero _)
      | succ fuel ih_47 =>
        intro k gw H locs ls hm hk n_3 n_5 n_7 hfr hW hl
        have h0 : gw i = .inr (4, [.ref (A (i + 1)), .ref (A (i + 2)), .int (iI ((hz : Int))), .ref (A (i + 3)), .ref (A (i + 5)), .ref (A (i + 7))]) := (hfr _ (by omega)).trans h0g
        have h1 : gw (i + 1) = aI E 20 f := (hfr _ (by omega)).trans h1g
        have h2 : gw (i + 2) = aI E 20 h := (hfr _ (by omega)).trans h2g
        have hVw : HapV E A gw i hz ta tb := ⟨h0, hz20, hab, ⟨f, h, h1, h2, hf⟩, n_3.any, n_5.any, n_7.any⟩
        refine lv_iload_n X.1 X.2.1 dX4_bestStart_47 rfl (lv_at hl 3 rfl) ?_
        refine x_if_lt (tgt := 89) X ⟨by omega, by omega⟩ dX4_bestStart_48 (by decide) (fun b_48 => ?_) (fun b_48 => ?_)
        · have hk0 : k = 0 := by omega
          refine lv_aload_n X.1 X.2.1 dX4_bestStart_89 rfl (lv_at hl 1 rfl) ?_
          refine lv_aload_n X.1 X.2.1 dX4_bestStart_90 rfl (lv_at hl 0 rfl) ?_
          refine x_get (C := RX4) (T := TX4) (N := 6) X hW (by omega) h0 rfl lk_0 5 (by decide) lk_4 rfl dX4_bestStart_91 ?_
          have hRX := hRX.frame (fun j h1 h2 => hfr j (by omega))
          have hR2 := hRX
          obtain ⟨⟨zr, hr0⟩, _⟩ := hR2
          refine x_cv (x_runV (k := 1) (As := [.ref (A (i + 7))]) (rest := []) X hW (c_X8_put l E A n _ gw rc (i + 7) (hpM ta tb hz (hz - k)) hrc (by omega) (by omega) hRX n_7) (by omega) hr0 rfl gX4_bestStart_X8_put rfl rfl rfl (by decide +kernel) ⟨by decide, by decide⟩ rfl hl.1 rfl (Nat.le_of_ble_eq_true rfl) dX4_bestStart_94 ⟨Nat.zero_le _, Nat.zero_le _⟩) hW (fun g_94 H locs hp_94 hW => ?_)
          obtain ⟨hRv, hf_94⟩ := hp_94
          have hRv : ResV E A g_94 rc (rdT ((hpM ta tb hz hz : Nat) : Int) (pr tb 0)) (rdB ((hpM ta tb hz hz : Nat) : Int) (pr tb 0)) := by show ResV E A _ rc (rdT _ 1) (rdB _ 1); rw [rdT_1, rdB_1]; rw [show k = 0 from by omega, Nat.sub_zero] at hRv; exact hRv
          have hV4 : HapV E A g_94 i hz ta tb := ⟨(hf_94 _ (by omega)).trans h0, hz20, hab, ⟨f, h, (hf_94 _ (by omega)).trans h1, (hf_94 _ (by omega)).trans h2, hf⟩, n_3.any.frame (hf_94 _ (by omega)) (hf_94 _ (by omega)), n_5.any.frame (hf_94 _ (by omega)) (hf_94 _ (by omega)), n_7.any.frame (hf_94 _ (by omega)) (hf_94 _ (by omega))⟩
          have hfz : ∀ j, ((j < i ∨ i + 8 < j) ∧ (j < rc ∨ rc + 8 < j)) → g_94 j = g j := fun j hj => (hf_94 j hj.2).trans (hfr j (by omega))
          have hl2 : lv_has ls 4 [(0, .ref (A (i))), (1, .ref (A (rc))), (2, .int (iI (((hpS ta tb hz hz : Nat) : Int)))), (3, .int (iI ((k : Int) - 1)))] := by rw [hk0, Nat.sub_zero] at hl; rw [hk0]; exact hl
          have hl := hl2
          refine x_iconst X dX4_bestStart_97 ?_
          refine x_seti (((0 : Nat) : Int)) rfl ?_
          refine lv_istore_n (lv' := [(3, .int (iI (((0 : Nat) : Int)))), (0, .ref (A (i))), (1, .ref (A (rc))), (2, .int (iI (((hpS ta tb hz hz : Nat) : Int))))]) X.1 X.2.1 dX4_bestStart_98 rfl hl (by decide) rfl (fun ls hl => ?_)
          have loop_99 : ∀ (fuel : Nat) (u : Nat) (gv : Nat → va_E) (H : Heap) (locs : List Loc) (ls : Array Slot), (hz - u) < fuel → (u ≤ hz) → (ResV E A gv rc (rdT ((hpM ta tb hz hz : Nat) : Int) (pr tb u)) (rdB ((hpM ta tb hz hz : Nat) : Int) (pr tb u))) → (HapV E A gv i hz ta tb) → (∀ j, ((j < i ∨ i + 8 < j) ∧ (j < rc ∨ rc + 8 < j)) → gv j = g j) → wH E (wF A n sz) A n s gv H locs → lv_has ls 4 [(0, .ref (A (i))), (1, .ref (A (rc))), (2, .int (iI (((hpS ta tb hz hz : Nat) : Int)))), (3, .int (iI ((u : Int))))] → W p l e ({ frames := 4, cells := 0, slots := 0, locals := 200 } : Room) s m [.ref (A (i)), .ref (A (rc))].toArray below meth c H locs 0 0 (MQ below (va_Qi (fun r g' => (hz = 0 → r = iI (-1) ∧ g' = g) ∧ (0 < hz → r = iI ((hpS ta tb hz hz : Nat) : Int) ∧ ResV E A g' rc (rdT ((hpM ta tb hz hz : Nat) : Int) (pr tb hz)) (rdB ((hpM ta tb hz hz : Nat) : Int) (pr tb hz)) ∧ HapV E A g' i hz ta tb ∧ ∀ j, ((j < i ∨ i + 8 < j) ∧ (j < rc ∨ rc + 8 < j)) → g' j = g j)) (wAt E A n) (wF A n sz)) [.ref (A (i)), .ref (A (rc))].toArray s 0 0 (wF A n sz)) (F0 m 99 ls []) := by
            intro fuel
            induction fuel with
            | zero => intro u gv H locs ls hm; exact absurd hm (Nat.not_lt_zero _)
            | succ fuel ih_99 =>
              intro u gv H locs ls hm hu hRv hV4 hfz hW hl
              have hV5 := hV4
              obtain ⟨h0, _, _, ⟨f5, h5, h1, h2, hf5⟩, _⟩ := hV5
              have hr0 := hRv.1
              refine lv_iload_n X.1 X.2.1 dX4_bestStart_99 rfl (lv_at hl 3 rfl) ?_
              refine lv_aload_n X.1 X.2.1 dX4_bestStart_100 rfl (lv_at hl 0 rfl) ?_
              refine x_get (C := RX4) (T := TX4) (N := 6) X hW (by omega) h0 rfl lk_0 2 (by decide) lk_1 rfl dX4_bestStart_101 ?_
              refine x_icmp_ge (tgt := 123) X ⟨by omega, by omega⟩ ⟨by omega, by omega⟩ dX4_bestStart_104 (by decide) (fun b_104 => ?_) (fun b_104 => ?_)
              · refine lv_iload_n X.1 X.2.1 dX4_bestStart_123 rfl (lv_at hl 2 rfl) ?_
                exact x_iret X hr hlk hW (⟨fun h9 => absurd hz0 (by omega), fun _ => ⟨rfl, by rw [show u = hz from by omega] at hRv; exact hRv, hV4, hfz⟩⟩) dX4_bestStart_124
              · have hu9 : u < hz := by omega
                have hau := hab u hu9
                have hpk : pr tb u * tb u < 10 ^ 54 := Nat.lt_of_le_of_lt (Nat.le_trans (pr_le (f := tb) (M := 100) (u + 1) (fun j hj => (hab j (by omega)).2.2)) (pow100 (by omega))) (by decide)
                refine lv_aload_n X.1 X.2.1 dX4_bestStart_107 rfl (lv_at hl 1 rfl) ?_
                refine lv_aload_n X.1 X.2.1 dX4_bestStart_108 rfl (lv_at hl 0 rfl) ?_
                refine x_get (C := RX4) (T := TX4) (N := 6) X hW (by omega) h0 rfl lk_0 1 (by decide) lk_5 rfl dX4_bestStart_109 ?_
                refine lv_iload_n X.1 X.2.1 dX4_bestStart_112 rfl (lv_at hl 3 rfl) ?_
                refine x_iald X hW (by omega) h2 (v := iI (((tb u : Nat) : Int))) u (by omega) (by omega) (by decide) ((hf5 u hu9).2) dX4_bestStart_113 ?_
                refine x_cv (x_runV (k := 1) (As := [.int (iI (((tb u : Nat) : Int)))]) (rest := []) X hW (c_X8_over l E A n _ gv rc ((hpM ta tb hz hz : Nat) : Int) (pr tb u) (tb u) hrc (pr_pos u (fun j hj => by have := (hab j (by omega)).2.1; omega)) (by omega) (by omega) hRv hpk) (by omega) hr0 rfl gX4_bestStart_X8_over rfl rfl rfl (by decide +kernel) ⟨by decide, by decide⟩ rfl hl.1 rfl (Nat.le_of_ble_eq_true rfl) dX4_bestStart_114 ⟨Nat.zero_le _, Nat.zero_le _⟩) hW (fun g_114 H locs hp_114 hW => ?_)
                obtain ⟨hRv, hf_114⟩ := hp_114
                have hV4 : HapV E A g_114 i hz ta tb := hV4.frame (fun j h1 h2 => hf_114 j (by omega))
                have hfz : ∀ j, ((j < i ∨ i + 8 < j) ∧ (j < rc ∨ rc + 8 < j)) → g_114 j = g j := fun j hj => (hf_114 j hj.2).trans (hfz j hj)
                refine lv_iinc (v := iI (((u + 1 : Nat) : Int))) (lv' := [(3, .int (iI (((u + 1 : Nat) : Int)))), (0, .ref (A (i))), (1, .ref (A (rc))), (2, .int (iI (((hpS ta tb hz hz : Nat) : Int))))]) X.1 X.2.1 dX4_bestStart_117 hl (k := 3) rfl (by rw [show (Int32.ofInt (1)) = iI (1) from rfl, iI_add]; rfl) (by decide) rfl (fun ls hl => ?_)
                refine lv_goto (tgt := 99) X.1 X.2.1 dX4_bestStart_120 (by decide) ?_
                exact ih_99 (u + 1) g_114 _ _ _ (by omega) (by omega) hRv hV4 hfz hW (lv_sub hl [1, 2, 3, 0] rfl)
          exact loop_99 _ 0 g_94 _ _ _ (Nat.lt_succ_self _) (Nat.zero_le _) hRv hV4 hfz hW (lv_sub hl [1, 2, 3, 0] rfl)
        · obtain ⟨t, ht⟩ : ∃ t, k = t + 1 := ⟨k - 1, by omega⟩
          have ht9 : t < hz := by omega
          have et : hz - 1 - (hz - k) = t := by omega
          have es : hz - t = hz - k + 1 := by omega
          have hc9 := hcap (hz - k) (by omega)
          have hp9 := pow100 (d := hz - k) (by omega)
          have hat := hab t ht9
          have eW : hpW ta tb hz (hz - t) = hpW ta tb hz (hz - k) * (tb t - ta t) + hpQ ta tb hz (hz - k) * ta t := by rw [es]; show hpW ta tb hz (hz - k) * _ + hpQ ta tb hz (hz - k) * _ = _; rw [et]
          have eQ : hpQ ta tb hz (hz - t) = hpQ ta tb hz (hz - k) * (tb t - ta t) := by rw [es]; show hpQ ta tb hz (hz - k) * _ = _; rw [et]
          have eM : hpM ta tb hz (hz - t) = if hpM ta tb hz (hz - k) * tb t < hpW ta tb hz (hz - t) then hpW ta tb hz (hz - t) else hpM ta tb hz (hz - k) * tb t := by rw [es]; show (if hpM ta tb hz (hz - k) * tb (hz - 1 - (hz - k)) < _ then _ else _) = _; rw [et]
          have eS : hpS ta tb hz (hz - t) = if hpM ta tb hz (hz - k) * tb t < hpW ta tb hz (hz - t) then t else hpS ta tb hz (hz - k) := by rw [es]; show (if hpM ta tb hz (hz - k) * tb (hz - 1 - (hz - k)) < _ then hz - 1 - (hz - k) else _) = _; rw [et]
          refine lv_aload_n X.1 X.2.1 dX4_bestStart_51 rfl (lv_at hl 0 rfl) ?_
          refine lv_iload_n X.1 X.2.1 dX4_bestStart_52 rfl (lv_at hl 3 rfl) ?_
          refine x_seti ((t : Int)) (by omega) ?_
          refine x_cv (x_runV (k := 1) (As := [.int (iI ((t : Int)))]) (rest := []) X hW (c_X4_startAt l E A n _ gw i hz ta tb t (hpW ta tb hz (hz - k)) (hpQ ta tb hz (hz - k)) (hpM ta tb hz (hz - k)) hi hVw ht9 n_3 n_5 n_7 (by omega) (by omega)) (by omega) h0 rfl gX4_bestStart_X4_startAt rfl rfl rfl (by decide +kernel) ⟨by decide, by decide⟩ rfl hl.1 rfl (Nat.le_of_ble_eq_true rfl) dX4_bestStart_53 ⟨Nat.zero_le _, Nat.zero_le _⟩) hW (fun g_53 H locs hp_53 hW => ?_)
          obtain ⟨n_3, n_5, n_7, hf_53⟩ := hp_53
          rw [← eW] at n_3
          rw [← eQ] at n_5
          have h0 : g_53 i = .inr (4, [.ref (A (i + 1)), .ref (A (i + 2)), .int (iI ((hz : Int))), .ref (A (i + 3)), .ref (A (i + 5)), .ref (A (i + 7))]) := by rw [hf_53 _ (by omega)]; exact h0
          have h1 : g_53 (i + 1) = aI E 20 f := by rw [hf_53 _ (by omega)]; exact h1
          have h2 : g_53 (i + 2) = aI E 20 h := by rw [hf_53 _ (by omega)]; exact h2
          have hfr : ∀ j, (j ≠ i + 4 ∧ j ≠ i + 6 ∧ j ≠ i + 8) → g_53 j = g j := fun j hj => (hf_53 j hj).trans (hfr j hj)
          refine lv_aload_n X.1 X.2.1 dX4_bestStart_56 rfl (lv_at hl 0 rfl) ?_
          refine x_get (C := RX4) (T := TX4) (N := 6) X hW (by omega) h0 rfl lk_0 3 (by decide) lk_2 rfl dX4_bestStart_57 ?_
          refine lv_aload_n X.1 X.2.1 dX4_bestStart_60 rfl (lv_at hl 0 rfl) ?_
          refine x_get (C := RX4) (T := TX4) (N := 6) X hW (by omega) h0 rfl lk_0 5 (by decide) lk_4 rfl dX4_bestStart_61 ?_
          refine x_ci (x_runV (k := 1) (As := [.ref (A (i + 7))]) (rest := []) X hW (c_X5_against l E A n _ g_53 (i + 3) (i + 7) (hpW ta tb hz (hz - t)) (hpM ta tb hz (hz - k) * tb t) (by omega) (by omega) n_3 n_7) (by omega) n_3.2.1 rfl gX4_bestStart_X5_against rfl rfl rfl (by decide +kernel) ⟨by decide, by decide⟩ rfl hl.1 rfl (Nat.le_of_ble_eq_true rfl) dX4_bestStart_64 ⟨Nat.zero_le _, Nat.zero_le _⟩) hW (fun r_64 g_64 H locs hp_64 hW => ?_)
          obtain ⟨hr_64, he_64⟩ := hp_64
          rw [he_64] at hW
          subst hr_64
          refine x_if_le (tgt := 83) X ⟨by repeat (first | decide | split), by repeat (first | decide | split)⟩ dX4_bestStart_67 (by decide) (fun b_67 => ?_) (fun b_67 => ?_)
          · have hle : ¬ hpM ta tb hz (hz - k) * tb t < hpW ta tb hz (hz - t) := fun q => by rw [if_neg (by omega), if_neg (by omega)] at b_67; omega
            rw [if_neg hle] at eM eS
            rw [← eM] at n_7
            have hl2 : lv_has ls 4 [(0, .ref (A (i))), (1, .ref (A (rc))), (2, .int (iI (((hpS ta tb hz (hz - t) : Nat) : Int)))), (3, .int (iI ((k : Int) - 1)))] := by rw [eS]; exact hl
            have hl := hl2
            refine lv_iinc (v := iI ((t : Int) - 1)) (lv' := [(3, .int (iI ((t : Int) - 1))), (0, .ref (A (i))), (1, .ref (A (rc))), (2, .int (iI (((hpS ta tb hz (hz - t) : Nat) : Int))))]) X.1 X.2.1 dX4_bestStart_83 hl (k := 3) rfl (by rw [show (Int32.ofInt (-1)) = iI (-1) from rfl, iI_add]; congr 1; omega) (by decide) rfl (fun ls hl => ?_)
            refine lv_goto (tgt := 47) X.1 X.2.1 dX4_bestStart_86 (by decide) ?_
            exact ih_47 t g_53 _ _ _ (by omega) (by omega) n_3 n_5 n_7 hfr hW (lv_sub hl [1, 2, 3, 0] rfl)
          · have hgt : hpM ta tb hz (hz - k) * tb t < hpW ta tb hz (hz - t) := Decidable.byContradiction (fun q => b_67 (by repeat (first | omega | split)))
            rw [if_pos hgt] at eM eS
            refine lv_aload_n X.1 X.2.1 dX4_bestStart_70 rfl (lv_at hl 0 rfl) ?_
            refine x_get (C := RX4) (T := TX4) (N := 6) X hW (by omega) h0 rfl lk_0 5 (by decide) lk_4 rfl dX4_bestStart_71 ?_
            refine lv_aload_n X.1 X.2.1 dX4_bestStart_74 rfl (lv_at hl 0 rfl) ?_
            refine x_get (C := RX4) (T := TX4) (N := 6) X hW (by omega) h0 rfl lk_0 3 (by decide) lk_2 rfl dX4_bestStart_75 ?_
            refine x_cv (x_runV (k := 1) (As := [.ref (A (i + 3))]) (rest := []) X hW (c_X5_copy l E A n _ g_53 (i + 7) (i + 3) (hpW ta tb hz (hz - t)) (by omega) (by omega) (by omega) (by omega) (by omega) n_7.any n_3) (by omega) n_7.2.1 rfl gX4_bestStart_X5_copy rfl rfl rfl (by decide +kernel) ⟨by decide, by decide⟩ rfl hl.1 rfl (Nat.le_of_ble_eq_true rfl) dX4_bestStart_78 ⟨Nat.zero_le _, Nat.zero_le _⟩) hW (fun g_78 H locs hp_78 hW => ?_)
            obtain ⟨nv_78, hf_78⟩ := hp_78
            have h0 : g_78 i = .inr (4, [.ref (A (i + 1)), .ref (A (i + 2)), .int (iI ((hz : Int))), .ref (A (i + 3)), .ref (A (i + 5)), .ref (A (i + 7))]) := by rw [hf_78 _ (by omega)]; exact h0
            have h1 : g_78 (i + 1) = aI E 20 f := by rw [hf_78 _ (by omega)]; exact h1
            have h2 : g_78 (i + 2) = aI E 20 h := by rw [hf_78 _ (by omega)]; exact h2
            have n_3 : NatV E A g_78 (i + 3) (hpW ta tb hz (hz - t)) := n_3.frame (hf_78 _ (by omega)) (hf_78 _ (by omega))
            have n_5 : NatV E A g_78 (i + 5) (hpQ ta tb hz (hz - t)) := n_5.frame (hf_78 _ (by omega)) (hf_78 _ (by omega))
            have n_7 : NatV E A g_78 (i + 7) (hpW ta tb hz (hz - t)) := nv_78
            have hfr : ∀ j, (j ≠ i + 4 ∧ j ≠ i + 6 ∧ j ≠ i + 8) → g_78 j = g j := fun j hj => (hf_78 j (by omega)).trans (hfr j hj)
            refine lv_iload_n X.1 X.2.1 dX4_bestStart_81 rfl (lv_at hl 3 rfl) ?_
            refine lv_istore_n (lv' := [(2, .int (iI ((k : Int) - 1))), (0, .ref (A (i))), (1, .ref (A (rc))), (3, .int (iI ((k : Int) - 1)))]) X.1 X.2.1 dX4_bestStart_82 rfl hl (by decide) rfl (fun ls hl => ?_)
            have hl2 : lv_has ls 4 [(2, .int (iI (((hpS ta tb hz (hz - t) : Nat) : Int)))), (0, .ref (A (i))), (1, .ref (A (rc))), (3, .int (iI ((k : Int) - 1)))] := by rw [eS, show ((t : Nat) : Int) = (k : Int) - 1 from by omega]; exact hl
            rw [← eM] at n_7
            have hl := hl2
            refine lv_iinc (v := iI ((t : Int) - 1)) (lv' := [(3, .int (iI ((t : Int) - 1))), (2, .int (iI (((hpS ta tb hz (hz - t) : Nat) : Int)))), (0, .ref (A (i))), (1, .ref (A (rc)))]) X.1 X.2.1 dX4_bestStart_83 hl (k := 3) rfl (by rw [show (Int32.ofInt (-1)) = iI (-1) from rfl, iI_add]; congr 1; omega) (by decide) rfl (fun ls hl => ?_)
            refine lv_goto (tgt := 47) X.1 X.2.1 dX4_bestStart_86 (by decide) ?_
            exact ih_47 t g_78 _ _ _ (by omega) (by omega) n_3 n_5 n_7 hfr hW (lv_sub hl [2, 3, 1, 0] rfl)
    exact loop_47 _ hz g_37 _ _ _ (Nat.lt_succ_self _) (Nat.le_refl _) (by rw [Nat.sub_self]; exact n_3) (by rw [Nat.sub_self]; exact n_5) (by rw [Nat.sub_self]; exact n_7) hfr hW (lv_sub hl [2, 3, 1, 0] rfl)
  · refine x_iconst X dX4_bestStart_7 ?_
    exact x_iret X hr hlk hW (⟨fun _ => ⟨rfl, rfl⟩, fun h9 => absurd b_4 (by omega)⟩) dX4_bestStart_8
