/-! ===== Boxes: search ===== -/
theorem up_same {α : Type} (f : Nat → α) (d : Nat) : va_up f d (f d) = f := by
  funext k
  by_cases e : k = d
  · rw [e, va_up_self]
  · rw [va_up_ne _ _ e]
/-- what the best way brings, box by box in order, all weights multiplied -/
def srS (Lk : Nat → List (Nat × Nat)) (px od : Nat → Nat) : Nat → Nat
  | 0 => 0
  | d + 1 => srS Lk px od d * bE (Lk (od d)) (fun _ => 1) + gS (fun k => Lk (od k)) d (gnV (Lk (od d)) (px (od d))) 1001
theorem sr_le {Lk : Nat → List (Nat × Nat)} {px od : Nat → Nat} {xz : Nat} (ht : ∀ k, k < xz → bE (Lk (od k)) (fun _ => 1) ≤ 8000) (hg : ∀ k, k < xz → gnV (Lk (od k)) (px (od k)) 0 ≤ 8000000) : ∀ d, d ≤ xz → srS Lk px od d ≤ d * 1000 * 8000 ^ d := by
  intro d
  induction d with
  | zero => intro _; exact Nat.zero_le _
  | succ d ih =>
    intro hd
    have h1 := ih (by omega)
    have h2 := gS_le (Lo := fun k => Lk (od k)) (oz := d) (gn := gnV (Lk (od d)) (px (od d))) (gn_mono _ _) 1001
    have h3 : prT (fun k => Lk (od k)) d ≤ 8000 ^ d := prT_le (cz := d) (fun k hk => ht k (by omega)) d (Nat.le_refl _)
    have h4 : prT (fun k => Lk (od k)) d * gnV (Lk (od d)) (px (od d)) 0 ≤ 8000 ^ d * 8000000 := Nat.mul_le_mul h3 (hg d (by omega))
    have h5 : srS Lk px od d * bE (Lk (od d)) (fun _ => 1) ≤ d * 1000 * 8000 ^ d * 8000 := Nat.mul_le_mul h1 (ht d (by omega))
    have e1 : (d + 1) * 1000 * 8000 ^ (d + 1) = d * 1000 * 8000 ^ d * 8000 + 8000 ^ d * 8000000 := by
      rw [Nat.pow_succ, ← Nat.mul_assoc, Nat.add_mul, Nat.add_mul, Nat.add_mul, Nat.one_mul, Nat.mul_comm 1000 (8000 ^ d), Nat.mul_assoc (8000 ^ d) 1000 8000]
    show srS Lk px od d * _ + gS _ d _ 1001 ≤ _
    omega

set_option maxHeartbeats 4000000 in
set_option maxRecDepth 100000 in
/-- searchInto -/
theorem c_X1_searchInto (l : Launch) (E : wE) (A : Nat → Nat) (n sz : Nat) (g : Nat → va_E) (i xz : Nat) (bc px : Nat → Nat) (P : Nat → Int) (Q od : Nat → Nat) (Lk : Nat → List (Nat × Nat)) (rc : Nat) (hi : i + 18 < n) (hV : BoxV E A g i xz bc px P Q od) (hB : BksV E A g n xz bc Lk) (hdb : ∀ k, k < xz → i + 18 < bc k ∨ bc k + 2 < i) (htp : ∀ k, k < xz → 0 < bE (Lk k) (fun _ => 1)) (hrc : rc + 8 < n) (hRX : ResX E A g rc) (hdr : rc + 8 < i ∨ i + 18 < rc) (hdb2 : ∀ k, k < xz → rc + 8 < bc k ∨ bc k + 2 < rc) : Met l yX1_searchInto wsX1_searchInto ({ frames := 6, cells := 0, slots := 0, locals := 300 } : Room) (va_Pc [.ref (A (i)), .ref (A (rc))] (wPre E A n sz g)) (va_Qv (fun g' => ResV E A g' rc (rdT ((srS Lk px od xz : Nat) : Int) (prT (fun k => Lk (od k)) xz)) (rdB ((srS Lk px od xz : Nat) : Int) (prT (fun k => Lk (od k)) xz)) ∧ BoxV E A g' i xz bc px P Q od ∧ ∀ j, ((j < i ∨ i + 18 < j) ∧ (j < rc ∨ rc + 8 < j)) → g' j = g j) (wAt E A n) (wF A n sz)) 0 0 (wF A n sz) := by
  refine x_met (cc := cX1_searchInto) (maxL := 4) (ret := none) [.ref (A (i)), .ref (A (rc))] (by decide) rfl (Nat.le_of_ble_eq_true rfl) ?_
  intro p_ e_ s_ m_ below meth c_ ls X hr hlk hnm hsz hW hl
  have hl : lv_has ls 4 [(0, .ref (A (i))), (1, .ref (A (rc)))] := hl
  have lk_0 : ∀ w ∈ wsX10, w ∈ wsX1_searchInto := by decide +kernel
  have lk_1 : Cond.fieldLink RX1 18 (TX1 1).1 (TX1 1).2.1 (TX1 1).2.2.1 ∈ wsX1_searchInto := by decide +kernel
  have lk_2 : Cond.fieldLink RX1 37 (TX1 6).1 (TX1 6).2.1 (TX1 6).2.2.1 ∈ wsX1_searchInto := by decide +kernel
  have lk_3 : Cond.fieldLink RX1 12 (TX1 0).1 (TX1 0).2.1 (TX1 0).2.2.1 ∈ wsX1_searchInto := by decide +kernel
  have lk_4 : Cond.methodLink RX1 101 Lib.Math.min.name ∈ wsX1_searchInto := by decide +kernel
  have lk_5 : Cond.static Lib.Math.min.name ∈ wsX1_searchInto := by decide +kernel
  have lk_6 : Cond.initialized "java/lang/Math" ∈ wsX1_searchInto := by decide +kernel
  have lk_7 : Cond.code Lib.Math.min.name Lib.Math.min.code 2 (some .int) ∈ wsX1_searchInto := by decide +kernel
  have lk_8 : Cond.fieldLink RX1 31 (TX1 5).1 (TX1 5).2.1 (TX1 5).2.2.1 ∈ wsX1_searchInto := by decide +kernel
  obtain ⟨h0, hC, hx6, ⟨oz, ob, hCo0⟩, ⟨fp, ft, fb, fo, h11, h12, h13, h14, hv⟩, hS, n_i___15, n_i___17⟩ := id hV
  have hc0 := hC.1
  have hc6 := hCo0.1
  have h0g := h0
  have hCg := hC
  have hBg := hB
  have h11g := h11
  have h14g := h14
  have h12g := h12
  have h13g := h13
  have hfr : ∀ j, (j ≠ i + 6 ∧ j ≠ i + 10 ∧ j ≠ i + 16 ∧ j ≠ i + 18) → g j = g j := fun _ _ => rfl
  have htt : ∀ k, k < xz → bE (Lk (od k)) (fun _ => 1) ≤ 8000 := fun k hk => (hB (od k) (hS.1 k hk)).2.tot
  have hgg : ∀ k, k < xz → gnV (Lk (od k)) (px (od k)) 0 ≤ 8000000 := fun k hk => gn_cap (hB (od k) (hS.1 k hk)).2 _ _
  refine lv_aload_n X.1 X.2.1 dX1_searchInto_0 rfl (lv_at hl 0 rfl) ?_
  refine x_get (C := RX1) (T := TX1) (N := 8) X hW (by omega) h0 rfl lk_0 1 (by decide) lk_1 rfl dX1_searchInto_1 ?_
  refine x_cv (x_runV (k := 0) (As := []) (rest := []) X hW (c_X3_clear l E A n _ g (i + 6) oz ob (by omega) hCo0) (by omega) hc6 rfl gX1_searchInto_X3_clear rfl rfl rfl (by decide +kernel) ⟨by decide, by decide⟩ rfl hl.1 rfl (Nat.le_of_ble_eq_true rfl) dX1_searchInto_4 ⟨Nat.zero_le _, Nat.zero_le _⟩) hW (fun g_4 H locs hp_4 hW => ?_)
  obtain ⟨hCo, hf_4⟩ := hp_4
  have h0 : g_4 i = .inr (1, [.ref (A (i + 1)), .ref (A (i + 6)), .ref (A (i + 11)), .ref (A (i + 12)), .ref (A (i + 13)), .ref (A (i + 14)), .ref (A (i + 15)), .ref (A (i + 17))]) := by rw [hf_4 _ (by omega)]; exact h0
  have hc0 : g_4 (i + 1) = .inr (3, [.ref (A (i + 1 + 1)), .ref (A (i + 1 + 4)), .int (iI ((xz : Int)))]) := by rw [hf_4 _ (by omega)]; exact hc0
  have h11 : g_4 (i + 11) = aI E 6 fp := by rw [hf_4 _ (by omega)]; exact h11
  have h14 : g_4 (i + 14) = aI E 6 fo := by rw [hf_4 _ (by omega)]; exact h14
  have n_i___15 : NatX E A g_4 (i + 15) := n_i___15.frame (hf_4 _ (by omega)) (hf_4 _ (by omega))
  have n_i___17 : NatX E A g_4 (i + 17) := n_i___17.frame (hf_4 _ (by omega)) (hf_4 _ (by omega))
  have hfr : ∀ j, (j ≠ i + 6 ∧ j ≠ i + 10 ∧ j ≠ i + 16 ∧ j ≠ i + 18) → g_4 j = g j := fun j hj => (hf_4 j (by omega)).trans (hfr j hj)
  refine lv_aload_n X.1 X.2.1 dX1_searchInto_7 rfl (lv_at hl 0 rfl) ?_
  refine x_get (C := RX1) (T := TX1) (N := 8) X hW (by omega) h0 rfl lk_0 6 (by decide) lk_2 rfl dX1_searchInto_8 ?_
  refine x_lconst X 0 (by decide) dX1_searchInto_11 ?_
  refine x_cv (x_runV (k := 1) (As := [.long (lI (0))]) (rest := []) X hW (c_X5_put l E A n _ g_4 (i + 15) 0 (by omega) n_i___15 (by decide)) (by omega) n_i___15.1 rfl gX1_searchInto_X5_put rfl rfl rfl (by decide +kernel) ⟨by decide, by decide⟩ rfl hl.1 rfl (Nat.le_of_ble_eq_true rfl) dX1_searchInto_12 ⟨Nat.zero_le _, Nat.zero_le _⟩) hW (fun g_12 H locs hp_12 hW => ?_)
  obtain ⟨nv_12, hf_12⟩ := hp_12
  have h0 : g_12 i = .inr (1, [.ref (A (i + 1)), .ref (A (i + 6)), .ref (A (i + 11)), .ref (A (i + 12)), .ref (A (i + 13)), .ref (A (i + 14)), .ref (A (i + 15)), .ref (A (i + 17))]) := by rw [hf_12 _ (by omega)]; exact h0
  have hc0 : g_12 (i + 1) = .inr (3, [.ref (A (i + 1 + 1)), .ref (A (i + 1 + 4)), .int (iI ((xz : Int)))]) := by rw [hf_12 _ (by omega)]; exact hc0
  have h11 : g_12 (i + 11) = aI E 6 fp := by rw [hf_12 _ (by omega)]; exact h11
  have h14 : g_12 (i + 14) = aI E 6 fo := by rw [hf_12 _ (by omega)]; exact h14
  have n_i___17 : NatX E A g_12 (i + 17) := n_i___17.frame (hf_12 _ (by omega)) (hf_12 _ (by omega))
  have n_i___15 : NatV E A g_12 (i + 15) 0 := nv_12
  have hfr : ∀ j, (j ≠ i + 6 ∧ j ≠ i + 10 ∧ j ≠ i + 16 ∧ j ≠ i + 18) → g_12 j = g j := fun j hj => (hf_12 j (by omega)).trans (hfr j hj)
  have hCo := hCo.frame (hf_12 _ (by omega)) (hf_12 _ (by omega))
  have hCoz : CrowdV E A g_12 (i + 6) 0 (fun k => bc (od k)) := by obtain ⟨a9, b9, f9, c9, d9⟩ := hCo; exact ⟨a9, b9, f9, c9, fun k hk => absurd hk (Nat.not_lt_zero _)⟩
  refine x_iconst X dX1_searchInto_15 ?_
  refine x_seti (((0 : Nat) : Int)) rfl ?_
  refine lv_istore_n (lv' := [(2, .int (iI (((0 : Nat) : Int)))), (0, .ref (A (i))), (1, .ref (A (rc)))]) X.1 X.2.1 dX1_searchInto_16 rfl hl (by decide) rfl (fun ls hl => ?_)
  have loop_17 : ∀ (fuel : Nat) (d : Nat) (gw : Nat → va_E) (H : Heap) (locs : List Loc) (ls : Array Slot), (xz - d) < fuel → (d ≤ xz) → (CrowdV E A gw (i + 6) d (fun k => bc (od k))) → (NatV E A gw (i + 15) (srS Lk px od d)) → (NatX E A gw (i + 17)) → (∀ j, (j ≠ i + 6 ∧ j ≠ i + 10 ∧ j ≠ i + 16 ∧ j ≠ i + 18) → gw j = g j) → wH E (wF A n sz) A n s_ gw H locs → lv_has ls 4 [(0, .ref (A (i))), (1, .ref (A (rc))), (2, .int (iI (((d : Nat) : Int))))] → W p_ l e_ ({ frames := 6, cells := 0, slots := 0, locals := 300 } : Room) s_ m_ [.ref (A (i)), .ref (A (rc))].toArray below meth c_ H locs 0 0 (MQ below (va_Qv (fun g' => ResV E A g' rc (rdT ((srS Lk px od xz : Nat) : Int) (prT (fun k => Lk (od k)) xz)) (rdB ((srS Lk px od xz : Nat) : Int) (prT (fun k => Lk (od k)) xz)) ∧ BoxV E A g' i xz bc px P Q od ∧ ∀ j, ((j < i ∨ i + 18 < j) ∧ (j < rc ∨ rc + 8 < j)) → g' j = g j) (wAt E A n) (wF A n sz)) [.ref (A (i)), .ref (A (rc))].toArray s_ 0 0 (wF A n sz)) (F0 m_ 17 ls []) := by
    intro fuel
    induction fuel with
    | zero => intro d gw H locs ls hm; exact absurd hm (Nat.not_lt_zero _)
    | succ fuel ih_17 =>
      intro d gw H locs ls hm hd hCo n_i___15 n_i___17 hfr hW hl
      have hC : CrowdV E A gw (i + 1) xz bc := hCg.frame (hfr _ (by omega)) (hfr _ (by omega))
      have hB : BksV E A gw n xz bc Lk := hBg.frame (fun k hk => by have := hdb k hk; exact ⟨hfr _ (by omega), hfr _ (by omega), hfr _ (by omega)⟩)
      have h0 : gw i = .inr (1, [.ref (A (i + 1)), .ref (A (i + 6)), .ref (A (i + 11)), .ref (A (i + 12)), .ref (A (i + 13)), .ref (A (i + 14)), .ref (A (i + 15)), .ref (A (i + 17))]) := (hfr _ (by omega)).trans h0g
      have h11 : gw (i + 11) = aI E 6 fp := (hfr _ (by omega)).trans h11g
      have h14 : gw (i + 14) = aI E 6 fo := (hfr _ (by omega)).trans h14g
      have hc0 := hC.1
      have hc6 := hCo.1
      refine lv_iload_n X.1 X.2.1 dX1_searchInto_17 rfl (lv_at hl 2 rfl) ?_
      refine lv_aload_n X.1 X.2.1 dX1_searchInto_18 rfl (lv_at hl 0 rfl) ?_
      refine x_get (C := RX1) (T := TX1) (N := 8) X hW (by omega) h0 rfl lk_0 0 (by decide) lk_3 rfl dX1_searchInto_19 ?_
      refine x_ci (x_runV (k := 0) (As := []) (rest := [.int (iI (((d : Nat) : Int)))]) X hW (c_X3_size l E A n _ gw (i + 1) xz bc (by omega) hC) (by omega) hc0 rfl gX1_searchInto_X3_size rfl rfl rfl (by decide +kernel) ⟨by decide, by decide⟩ rfl hl.1 rfl (Nat.le_of_ble_eq_true rfl) dX1_searchInto_22 ⟨Nat.zero_le _, Nat.zero_le _⟩) hW (fun r_22 g_22 H locs hp_22 hW => ?_)
      obtain ⟨hr_22, he_22⟩ := hp_22
      rw [he_22] at hW
      subst hr_22
      refine x_bipush X (by decide) dX1_searchInto_25 ?_
      refine x_mmini X hl.1 ⟨by omega, by omega⟩ ⟨by decide, by decide⟩ lk_4 lk_5 lk_6 lk_7 (by decide) (Nat.le_of_ble_eq_true rfl) (Nat.zero_le _) (Nat.zero_le _) dX1_searchInto_27 ?_
      refine x_seti ((xz : Int)) (by split <;> omega) ?_
      refine x_icmp_ge (tgt := 83) X ⟨by omega, by omega⟩ ⟨by omega, by omega⟩ dX1_searchInto_30 (by decide) (fun b_30 => ?_) (fun b_30 => ?_)
      · have hdx : d = xz := by omega
        refine lv_aload_n X.1 X.2.1 dX1_searchInto_83 rfl (lv_at hl 0 rfl) ?_
        refine x_get (C := RX1) (T := TX1) (N := 8) X hW (by omega) h0 rfl lk_0 1 (by decide) lk_1 rfl dX1_searchInto_84 ?_
        refine lv_aload_n X.1 X.2.1 dX1_searchInto_87 rfl (lv_at hl 0 rfl) ?_
        refine x_get (C := RX1) (T := TX1) (N := 8) X hW (by omega) h0 rfl lk_0 6 (by decide) lk_2 rfl dX1_searchInto_88 ?_
        refine lv_aload_n X.1 X.2.1 dX1_searchInto_91 rfl (lv_at hl 1 rfl) ?_
        refine x_cv (x_runV (k := 2) (As := [.ref (A (i + 15)), .ref (A (rc))]) (rest := []) X hW (c_X3_divide l E A n _ gw (i + 6) d (fun k => bc (od k)) (fun k => Lk (od k)) (i + 15) rc (srS Lk px od d) (by omega) hCo (fun k hk => hB (od k) (hS.1 k (by omega))) (fun k hk => htp (od k) (hS.1 k (by omega))) (by omega) hrc n_i___15 (hRX.frame (fun j h1 h2 => hfr j (by omega))) (by omega) (by omega) (fun k hk => hdb2 (od k) (hS.1 k (by omega)))) (by omega) hc6 rfl gX1_searchInto_X3_divide rfl rfl rfl (by decide +kernel) ⟨by decide, by decide⟩ rfl hl.1 rfl (Nat.le_of_ble_eq_true rfl) dX1_searchInto_92 ⟨Nat.zero_le _, Nat.zero_le _⟩) hW (fun g_92 H locs hp_92 hW => ?_)
        obtain ⟨hRv, hf_92⟩ := hp_92
        have hq : ∀ j, (i ≤ j ∧ j ≤ i + 18) → g_92 j = gw j := fun j hj => hf_92 j (by omega)
        exact x_vret X hr hlk hW (⟨by rw [← hdx]; exact hRv, ⟨(hq _ (by omega)).trans h0, hC.frame (hq _ (by omega)) (hq _ (by omega)), hx6, ⟨_, _, hCo.frame (hq _ (by omega)) (hq _ (by omega))⟩, ⟨fp, ft, fb, fo, (hq _ (by omega)).trans h11, (hq _ (by omega)).trans ((hfr _ (by omega)).trans h12g), (hq _ (by omega)).trans ((hfr _ (by omega)).trans h13g), (hq _ (by omega)).trans h14, hv⟩, hS, (n_i___15.frame (hq _ (by omega)) (hq _ (by omega))).any, n_i___17.frame (hq _ (by omega)) (hq _ (by omega))⟩, fun j hj => (hf_92 j hj.2).trans (hfr j (by omega))⟩) dX1_searchInto_95
      · have hod := hS.1 d (by omega)
        have hvd := hv d (by omega)
        have hpd := (hv (od d) hod).1
        have hdd := hdb (od d) hod
        have ht8 := htt d (by omega)
        have hs1 := sr_le htt hgg d (by omega)
        have hpc1 := pow_cap (d := d + 1) (by omega)
        have h3 : prT (fun k => Lk (od k)) d ≤ 8000 ^ d := prT_le (cz := d) (fun k hk => htt k (by omega)) d (Nat.le_refl _)
        have h4 : prT (fun k => Lk (od k)) d * 8000000 ≤ 8000 ^ d * 8000000 := Nat.mul_le_mul_right _ h3
        have h5 : srS Lk px od d * bE (Lk (od d)) (fun _ => 1) ≤ d * 1000 * 8000 ^ d * 8000 := Nat.mul_le_mul hs1 ht8
        have e1 : (d + 1) * 1000 * 8000 ^ (d + 1) = d * 1000 * 8000 ^ d * 8000 + 8000 ^ d * 8000000 := by rw [Nat.pow_succ, ← Nat.mul_assoc, Nat.add_mul, Nat.add_mul, Nat.add_mul, Nat.one_mul, Nat.mul_comm 1000 (8000 ^ d), Nat.mul_assoc (8000 ^ d) 1000 8000]
        have hcap : srS Lk px od d * bE (Lk (od d)) (fun _ => 1) + prT (fun k => Lk (od k)) d * 8000000 < 10 ^ 54 := by omega
        refine lv_aload_n X.1 X.2.1 dX1_searchInto_33 rfl (lv_at hl 0 rfl) ?_
        refine x_get (C := RX1) (T := TX1) (N := 8) X hW (by omega) h0 rfl lk_0 0 (by decide) lk_3 rfl dX1_searchInto_34 ?_
        refine lv_aload_n X.1 X.2.1 dX1_searchInto_37 rfl (lv_at hl 0 rfl) ?_
        refine x_get (C := RX1) (T := TX1) (N := 8) X hW (by omega) h0 rfl lk_0 5 (by decide) lk_8 rfl dX1_searchInto_38 ?_
        refine lv_iload_n X.1 X.2.1 dX1_searchInto_41 rfl (lv_at hl 2 rfl) ?_
        refine x_iald X hW (by omega) h14 (v := iI (((od d : Nat) : Int))) d (by omega) (by omega) (by decide) hvd.2.2.2.2 dX1_searchInto_42 ?_
        refine x_cr (x_runV (k := 1) (As := [.int (iI (((od d : Nat) : Int)))]) (rest := []) X hW (c_X3_at l E A n _ gw (i + 1) xz bc (od d) (by omega) hC hod) (by omega) hc0 rfl gX1_searchInto_X3_at rfl rfl rfl (by decide +kernel) ⟨by decide, by decide⟩ rfl hl.1 rfl (Nat.le_of_ble_eq_true rfl) dX1_searchInto_43 ⟨Nat.zero_le _, Nat.zero_le _⟩) hW (fun j_43 g_43 H locs hp_43 hW => ?_)
        have hj_43 : j_43 = bc (od d) := hp_43.1
        have he_43 : g_43 = gw := hp_43.2
        rw [he_43] at hW
        subst hj_43
        obtain ⟨hbn, hbv⟩ := hB (od d) hod
        obtain ⟨bz0, wo0, we0, tot0, hbc0, _⟩ := id hbv
        have hbo := hbc0.1
        refine lv_astore_n (lv' := [(3, .ref (A (bc (od d)))), (0, .ref (A (i))), (1, .ref (A (rc))), (2, .int (iI (((d : Nat) : Int))))]) X.1 X.2.1 dX1_searchInto_46 rfl hl (by decide) rfl (fun ls hl => ?_)
        refine lv_aload_n X.1 X.2.1 dX1_searchInto_47 rfl (lv_at hl 1 rfl) ?_
        refine x_get (C := RX1) (T := TX1) (N := 8) X hW (by omega) h0 rfl lk_0 6 (by decide) lk_2 rfl dX1_searchInto_48 ?_
        refine lv_aload_n X.1 X.2.1 dX1_searchInto_51 rfl (lv_at hl 0 rfl) ?_
        refine x_ci (x_runV (k := 0) (As := []) (rest := [.ref (A (i + 15))]) X hW (c_X0_total l E A n _ gw (bc (od d)) (Lk (od d)) hbn hbv) (by omega) hbo rfl gX1_searchInto_X0_total rfl rfl rfl (by decide +kernel) ⟨by decide, by decide⟩ rfl hl.1 rfl (Nat.le_of_ble_eq_true rfl) dX1_searchInto_52 ⟨Nat.zero_le _, Nat.zero_le _⟩) hW (fun r_52 g_52 H locs hp_52 hW => ?_)
        obtain ⟨hr_52, he_52⟩ := hp_52
        rw [he_52] at hW
        subst hr_52
        refine x_i2l X ⟨by omega, by omega⟩ dX1_searchInto_55 ?_
        refine x_cv (x_runV (k := 1) (As := [.long (lI (((bE (Lk (od d)) (fun _ => 1) : Nat) : Int)))]) (rest := []) X hW (c_X5_times l E A n _ gw (i + 15) (srS Lk px od d) (bE (Lk (od d)) (fun _ => 1)) (by omega) n_i___15 (by omega) (by omega)) (by omega) n_i___15.2.1 rfl gX1_searchInto_X5_times rfl rfl rfl (by decide +kernel) ⟨by decide, by decide⟩ rfl hl.1 rfl (Nat.le_of_ble_eq_true rfl) dX1_searchInto_56 ⟨Nat.zero_le _, Nat.zero_le _⟩) hW (fun g_56 H locs hp_56 hW => ?_)
        obtain ⟨nv_56, hf_56⟩ := hp_56
        have h0 : g_56 i = .inr (1, [.ref (A (i + 1)), .ref (A (i + 6)), .ref (A (i + 11)), .ref (A (i + 12)), .ref (A (i + 13)), .ref (A (i + 14)), .ref (A (i + 15)), .ref (A (i + 17))]) := by rw [hf_56 _ (by omega)]; exact h0
        have hc0 : g_56 (i + 1) = .inr (3, [.ref (A (i + 1 + 1)), .ref (A (i + 1 + 4)), .int (iI ((xz : Int)))]) := by rw [hf_56 _ (by omega)]; exact hc0
        have hc6 : g_56 (i + 6) = .inr (3, [.ref (A (i + 6 + 1)), .ref (A (i + 6 + 4)), .int (iI ((d : Int)))]) := by rw [hf_56 _ (by omega)]; exact hc6
        have h11 : g_56 (i + 11) = aI E 6 fp := by rw [hf_56 _ (by omega)]; exact h11
        have h14 : g_56 (i + 14) = aI E 6 fo := by rw [hf_56 _ (by omega)]; exact h14
        have hbo : g_56 (bc (od d)) = .inr (0, [.ref (A (bc (od d) + 1)), .ref (A (bc (od d) + 2)), .int (iI ((bz0 : Int))), .int (iI ((tot0 : Int)))]) := by rw [hf_56 _ (by omega)]; exact hbo
        have n_i___17 : NatX E A g_56 (i + 17) := n_i___17.frame (hf_56 _ (by omega)) (hf_56 _ (by omega))
        have n_i___15 : NatV E A g_56 (i + 15) (srS Lk px od d * bE (Lk (od d)) (fun _ => 1)) := nv_56
        have hfr : ∀ j, (j ≠ i + 6 ∧ j ≠ i + 10 ∧ j ≠ i + 16 ∧ j ≠ i + 18) → g_56 j = g j := fun j hj => (hf_56 j (by omega)).trans (hfr j hj)
        have hCo := hCo.frame (hf_56 _ (by omega)) (hf_56 _ (by omega))
        refine lv_aload_n X.1 X.2.1 dX1_searchInto_59 rfl (lv_at hl 1 rfl) ?_
        refine lv_aload_n X.1 X.2.1 dX1_searchInto_60 rfl (lv_at hl 1 rfl) ?_
        refine x_get (C := RX1) (T := TX1) (N := 8) X hW (by omega) h0 rfl lk_0 5 (by decide) lk_8 rfl dX1_searchInto_61 ?_
        refine lv_iload_n X.1 X.2.1 dX1_searchInto_64 rfl (lv_at hl 3 rfl) ?_
        refine x_iald X hW (by omega) h14 (v := iI (((od d : Nat) : Int))) d (by omega) (by omega) (by decide) hvd.2.2.2.2 dX1_searchInto_65 ?_
        have hC : CrowdV E A g_56 (i + 1) xz bc := hCg.frame (hfr _ (by omega)) (hfr _ (by omega))
        have hB : BksV E A g_56 n xz bc Lk := hBg.frame (fun k hk => by have := hdb k hk; exact ⟨hfr _ (by omega), hfr _ (by omega), hfr _ (by omega)⟩)
        obtain ⟨hbn, hbv⟩ := hB (od d) hod
        refine x_cv (x_runV (k := 1) (As := [.int (iI (((od d : Nat) : Int)))]) (rest := []) X hW (c_X1_addGains l E A n _ g_56 i xz (od d) bc (Lk (od d)) (px (od d)) fp d (fun k => bc (od k)) (fun k => Lk (od k)) (srS Lk px od d * bE (Lk (od d)) (fun _ => 1)) hi h0 hC hod hx6 hbn hbv h11 hpd.2 hpd.1 (hdb _ hod) hCo (fun k hk => hB (od k) (hS.1 k (by omega))) (fun k hk => hdb (od k) (hS.1 k (by omega))) n_i___15 n_i___17 hcap) (by omega) h0 rfl gX1_searchInto_X1_addGains rfl rfl rfl (by decide +kernel) ⟨by decide, by decide⟩ rfl hl.1 rfl (Nat.le_of_ble_eq_true rfl) dX1_searchInto_66 ⟨Nat.zero_le _, Nat.zero_le _⟩) hW (fun g_66 H locs hp_66 hW => ?_)
        obtain ⟨nS_66, nW_66, hf_66⟩ := hp_66
        have h0 : g_66 i = .inr (1, [.ref (A (i + 1)), .ref (A (i + 6)), .ref (A (i + 11)), .ref (A (i + 12)), .ref (A (i + 13)), .ref (A (i + 14)), .ref (A (i + 15)), .ref (A (i + 17))]) := by rw [hf_66 _ (by omega)]; exact h0
        have hc0 : g_66 (i + 1) = .inr (3, [.ref (A (i + 1 + 1)), .ref (A (i + 1 + 4)), .int (iI ((xz : Int)))]) := by rw [hf_66 _ (by omega)]; exact hc0
        have hc6 : g_66 (i + 6) = .inr (3, [.ref (A (i + 6 + 1)), .ref (A (i + 6 + 4)), .int (iI ((d : Int)))]) := by rw [hf_66 _ (by omega)]; exact hc6
        have h11 : g_66 (i + 11) = aI E 6 fp := by rw [hf_66 _ (by omega)]; exact h11
        have h14 : g_66 (i + 14) = aI E 6 fo := by rw [hf_66 _ (by omega)]; exact h14
        have hbo : g_66 (bc (od d)) = .inr (0, [.ref (A (bc (od d) + 1)), .ref (A (bc (od d) + 2)), .int (iI ((bz0 : Int))), .int (iI ((tot0 : Int)))]) := by rw [hf_66 _ (by omega)]; exact hbo
        have n_i___15 : NatV E A g_66 (i + 15) (srS Lk px od (d + 1)) := nS_66
        have n_i___17 := nW_66
        have hfr : ∀ j, (j ≠ i + 6 ∧ j ≠ i + 10 ∧ j ≠ i + 16 ∧ j ≠ i + 18) → g_66 j = g j := fun j hj => (hf_66 j (by omega)).trans (hfr j hj)
        have hCo := hCo.frame (hf_66 _ (by omega)) (hf_66 _ (by omega))
        refine lv_aload_n X.1 X.2.1 dX1_searchInto_69 rfl (lv_at hl 1 rfl) ?_
        refine x_get (C := RX1) (T := TX1) (N := 8) X hW (by omega) h0 rfl lk_0 1 (by decide) lk_1 rfl dX1_searchInto_70 ?_
        refine lv_aload_n X.1 X.2.1 dX1_searchInto_73 rfl (lv_at hl 0 rfl) ?_
        refine x_cv (x_runV (k := 1) (As := [.ref (A (bc (od d)))]) (rest := []) X hW (c_X3_join l E A n _ g_66 (i + 6) d (fun k => bc (od k)) (bc (od d)) _ (by omega) hCo (by omega) (by omega) hbo (by omega)) (by omega) hc6 rfl gX1_searchInto_X3_join rfl rfl rfl (by decide +kernel) ⟨by decide, by decide⟩ rfl hl.1 rfl (Nat.le_of_ble_eq_true rfl) dX1_searchInto_74 ⟨Nat.zero_le _, Nat.zero_le _⟩) hW (fun g_74 H locs hp_74 hW => ?_)
        obtain ⟨hCo, hf_74⟩ := hp_74
        rw [up_same (fun k => bc (od k)) d] at hCo
        have hfj_74 : ∀ j, (j ≠ i + 6 ∧ j ≠ i + 10) → g_74 j = g_66 j := fun j hj => hf_74 j hj.1 (by omega)
        have h0 : g_74 i = .inr (1, [.ref (A (i + 1)), .ref (A (i + 6)), .ref (A (i + 11)), .ref (A (i + 12)), .ref (A (i + 13)), .ref (A (i + 14)), .ref (A (i + 15)), .ref (A (i + 17))]) := by rw [hfj_74 _ (by omega)]; exact h0
        have hc0 : g_74 (i + 1) = .inr (3, [.ref (A (i + 1 + 1)), .ref (A (i + 1 + 4)), .int (iI ((xz : Int)))]) := by rw [hfj_74 _ (by omega)]; exact hc0
        have h11 : g_74 (i + 11) = aI E 6 fp := by rw [hfj_74 _ (by omega)]; exact h11
        have h14 : g_74 (i + 14) = aI E 6 fo := by rw [hfj_74 _ (by omega)]; exact h14
        have hbo : g_74 (bc (od d)) = .inr (0, [.ref (A (bc (od d) + 1)), .ref (A (bc (od d) + 2)), .int (iI ((bz0 : Int))), .int (iI ((tot0 : Int)))]) := by rw [hfj_74 _ (by omega)]; exact hbo
        have n_i___15 : NatV E A g_74 (i + 15) (srS Lk px od (d + 1)) := n_i___15.frame (hfj_74 _ (by omega)) (hfj_74 _ (by omega))
        have n_i___17 : NatX E A g_74 (i + 17) := n_i___17.frame (hfj_74 _ (by omega)) (hfj_74 _ (by omega))
        have hfr : ∀ j, (j ≠ i + 6 ∧ j ≠ i + 10 ∧ j ≠ i + 16 ∧ j ≠ i + 18) → g_74 j = g j := fun j hj => (hfj_74 j (by omega)).trans (hfr j hj)
        refine lv_iinc (v := iI (((d + 1 : Nat) : Int))) (lv' := [(2, .int (iI (((d + 1 : Nat) : Int)))), (3, .ref (A (bc (od d)))), (0, .ref (A (i))), (1, .ref (A (rc)))]) X.1 X.2.1 dX1_searchInto_77 hl (k := 3) rfl (by rw [show (Int32.ofInt (1)) = iI (1) from rfl, iI_add]; rfl) (by decide) rfl (fun ls hl => ?_)
        refine lv_goto (tgt := 17) X.1 X.2.1 dX1_searchInto_80 (by decide) ?_
        exact ih_17 (d + 1) g_74 _ _ _ (by omega) (by omega) hCo n_i___15 n_i___17 hfr hW (lv_sub hl [2, 3, 0] rfl)
  exact loop_17 _ 0 g_12 _ _ _ (Nat.lt_succ_self _) (Nat.zero_le _) hCoz n_i___15 n_i___17 hfr hW (lv_sub hl [1, 2, 0] rfl)
