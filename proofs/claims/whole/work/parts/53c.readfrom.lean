def rdE (nm : Nat → Int) (ln : Int) : Nat → Int
  | 0 => 0
  | k + 1 => if rdE nm ln k ≠ 0 then rdE nm ln k else if rdz nm ln (2 * (k : Int) + 1) 0 1000 < 0 then rdz nm ln (2 * (k : Int) + 1) 0 1000 else if rdz nm ln (2 * (k : Int) + 2) 0 1000 < 0 then rdz nm ln (2 * (k : Int) + 2) 0 1000 else 0
def rdL (nm : Nat → Int) : Nat → List (Nat × Nat)
  | 0 => []
  | k + 1 => rdL nm k ++ [((nm (2 * k + 1)).toNat, (nm (2 * k + 2)).toNat)]
/-- what book() makes of a row: its refusal, or 0 -/
def rdB2 (nm : Nat → Int) (ln : Int) : Int := if rdz nm ln 0 1 8 < 0 then rdz nm ln 0 1 8 else if rdE nm ln (rdz nm ln 0 1 8).toNat ≠ 0 then rdE nm ln (rdz nm ln 0 1 8).toNat else if bE (rdL nm (rdz nm ln 0 1 8).toNat) (fun _ => 1) = 0 then -4 else 0
theorem rdz_rng {nm : Nat → Int} {ln z lo hi : Int} (h0 : 0 ≤ lo) : (rdz nm ln z lo hi = -6 ∨ rdz nm ln z lo hi = -4) ∨ (lo ≤ rdz nm ln z lo hi ∧ rdz nm ln z lo hi ≤ hi ∧ rdz nm ln z lo hi = nm z.toNat) := by
  unfold rdz
  by_cases h : 0 ≤ z ∧ z ≤ ln - 1
  · rw [if_pos h]
    by_cases h2 : lo ≤ nm z.toNat ∧ nm z.toNat ≤ hi
    · rw [if_pos h2]; exact Or.inr ⟨h2.1, h2.2, rfl⟩
    · rw [if_neg h2]; exact Or.inl (Or.inr rfl)
  · rw [if_neg h]; exact Or.inl (Or.inl rfl)
theorem rdE_keep {nm : Nat → Int} {ln : Int} {a b : Nat} (h : a ≤ b) (e : rdE nm ln a ≠ 0) : rdE nm ln b = rdE nm ln a := by
  induction b with
  | zero => rw [show a = 0 from by omega]
  | succ b ih =>
    by_cases q : a = b + 1
    · rw [q]
    · have := ih (by omega)
      show (if rdE nm ln b ≠ 0 then rdE nm ln b else _) = _
      rw [if_pos (by rw [this]; exact e), this]
theorem rdE_a {nm : Nat → Int} {ln : Int} {k : Nat} (h : rdE nm ln k = 0) (h1 : rdz nm ln (2 * (k : Int) + 1) 0 1000 < 0) : rdE nm ln (k + 1) = rdz nm ln (2 * (k : Int) + 1) 0 1000 := by
  show (if rdE nm ln k ≠ 0 then rdE nm ln k else _) = _
  rw [if_neg (not_not_intro h), if_pos h1]
theorem rdE_b {nm : Nat → Int} {ln : Int} {k : Nat} (h : rdE nm ln k = 0) (h1 : ¬ rdz nm ln (2 * (k : Int) + 1) 0 1000 < 0) (h2 : rdz nm ln (2 * (k : Int) + 2) 0 1000 < 0) : rdE nm ln (k + 1) = rdz nm ln (2 * (k : Int) + 2) 0 1000 := by
  show (if rdE nm ln k ≠ 0 then rdE nm ln k else _) = _
  rw [if_neg (not_not_intro h), if_neg h1, if_pos h2]
theorem rdE_c {nm : Nat → Int} {ln : Int} {k : Nat} (h : rdE nm ln k = 0) (h1 : ¬ rdz nm ln (2 * (k : Int) + 1) 0 1000 < 0) (h2 : ¬ rdz nm ln (2 * (k : Int) + 2) 0 1000 < 0) : rdE nm ln (k + 1) = 0 := by
  show (if rdE nm ln k ≠ 0 then rdE nm ln k else _) = _
  rw [if_neg (not_not_intro h), if_neg h1, if_neg h2]
theorem BookP_0 (wo we : Nat → Nat) : BookP 0 wo we 0 [] := ⟨fun a b h1 h2 => absurd h2 (Nat.not_lt_zero _), fun k hk => absurd hk (Nat.not_lt_zero _), fun _ => rfl, rfl, by decide⟩

set_option maxHeartbeats 4000000 in
set_option maxRecDepth 100000 in
/-- readFrom -/
theorem c_X0_readFrom (l : Launch) (E : wE) (A : Nat → Nat) (n sz : Nat) (g : Nat → va_E) (i r : Nat) (w ln : Int) (nm : Nat → Int) (hi : i + 2 < n) (hr1 : r + 1 < n) (hir : r + 1 < i ∨ i + 2 < r) (hX : BookX E A g i) (hR : RowV E A g r w ln nm) : Met l yX0_readFrom wsX0_readFrom ({ frames := 3, cells := 0, slots := 0, locals := 120 } : Room) (va_Pc [.ref (A (i)), .ref (A (r))] (wPre E A n sz g)) (va_Qi (fun z g' => z = iI (rdB2 nm ln) ∧ (rdB2 nm ln = 0 → BookV E A g' i (rdL nm (rdz nm ln 0 1 8).toNat)) ∧ BookX E A g' i ∧ ∀ j, (j < i ∨ i + 2 < j) → g' j = g j) (wAt E A n) (wF A n sz)) 0 0 (wF A n sz) := by
  refine x_met (cc := cX0_readFrom) (maxL := 6) (ret := (some .int)) [.ref (A (i)), .ref (A (r))] (by decide) rfl (Nat.le_of_ble_eq_true rfl) ?_
  intro p e s m below meth c ls X hr hlk hnm hsz hW hl
  have hl : lv_has ls 6 [(0, .ref (A (i))), (1, .ref (A (r)))] := hl
  have lk_0 : ∀ w ∈ wsX00, w ∈ wsX0_readFrom := by decide +kernel
  have lk_1 : Cond.fieldLink RX0 18 (TX0 2).1 (TX0 2).2.1 (TX0 2).2.2.1 ∈ wsX0_readFrom := by decide +kernel
  have lk_2 : Cond.fieldLink RX0 22 (TX0 3).1 (TX0 3).2.1 (TX0 3).2.2.1 ∈ wsX0_readFrom := by decide +kernel
  obtain ⟨bz, wo, we, tot, h0, hs8, f, h, h1, h2, hf⟩ := hX
  have hR0 := hR
  have hfr : ∀ j, (j < i ∨ i + 2 < j) → g j = g j := fun _ _ => rfl
  refine lv_aload_n X.1 X.2.1 dX0_readFrom_0 rfl (lv_at hl 0 rfl) ?_
  refine x_iconst X dX0_readFrom_1 ?_
  refine x_seti (((0 : Nat) : Int)) rfl ?_
  refine x_put (C := RX0) (T := TX0) (N := 4) X hW (by omega) h0 rfl lk_0 tyX0 tyX0_ok nmX0 2 (by decide) lk_1 rfl rfl rfl (Nat.le_of_ble_eq_true rfl) dX0_readFrom_2 (fun g_2 H locs hg_2 hW => ?_)
  have h1 : g_2 (i + 1) = aI E 8 f := by rw [hg_2, va_up_ne _ _ (by omega)]; exact h1
  have h2 : g_2 (i + 2) = aI E 8 h := by rw [hg_2, va_up_ne _ _ (by omega)]; exact h2
  have h0 : g_2 i = .inr (0, [.ref (A (i + 1)), .ref (A (i + 2)), .int (iI (((0 : Nat) : Int))), .int (iI ((tot : Int)))]) := by rw [hg_2]; exact va_up_self _ _ _
  refine lv_aload_n X.1 X.2.1 dX0_readFrom_5 rfl (lv_at hl 0 rfl) ?_
  refine x_iconst X dX0_readFrom_6 ?_
  refine x_seti (((0 : Nat) : Int)) rfl ?_
  refine x_put (C := RX0) (T := TX0) (N := 4) X hW (by omega) h0 rfl lk_0 tyX0 tyX0_ok nmX0 3 (by decide) lk_2 rfl rfl rfl (Nat.le_of_ble_eq_true rfl) dX0_readFrom_7 (fun g_7 H locs hg_7 hW => ?_)
  have h1 : g_7 (i + 1) = aI E 8 f := by rw [hg_7, va_up_ne _ _ (by omega)]; exact h1
  have h2 : g_7 (i + 2) = aI E 8 h := by rw [hg_7, va_up_ne _ _ (by omega)]; exact h2
  have h0 : g_7 i = .inr (0, [.ref (A (i + 1)), .ref (A (i + 2)), .int (iI (((0 : Nat) : Int))), .int (iI (((0 : Nat) : Int)))]) := by rw [hg_7]; exact va_up_self _ _ _
  have hfr : ∀ j, (j < i ∨ i + 2 < j) → g_7 j = g j := fun j hj => by rw [hg_7, va_up_ne _ _ (by omega), hg_2, va_up_ne _ _ (by omega)]
  have hR : RowV E A g_7 r w ln nm := hR0.frame (hfr _ (by omega)) (hfr _ (by omega))
  refine lv_aload_n X.1 X.2.1 dX0_readFrom_10 rfl (lv_at hl 1 rfl) ?_
  refine x_iconst X dX0_readFrom_11 ?_
  refine x_iconst X dX0_readFrom_12 ?_
  refine x_bipush X (by decide) dX0_readFrom_13 ?_
  refine x_ci (x_runV (k := 3) (As := [.int (iI (0)), .int (iI (1)), .int (iI (8))]) (rest := []) X hW (c_X9_read l E A n _ g_7 r w ln nm (0) (1) (8) hr1 hR ⟨by omega, by omega⟩ ⟨by decide, by decide⟩ ⟨by decide, by decide⟩) (by omega) hR.1 rfl gX0_readFrom_X9_read rfl rfl rfl (by decide +kernel) ⟨by decide, by decide⟩ rfl hl.1 rfl (Nat.le_of_ble_eq_true rfl) dX0_readFrom_15 ⟨Nat.zero_le _, Nat.zero_le _⟩) hW (fun r_15 g_15 H locs hp_15 hW => ?_)
  obtain ⟨hr_15, he_15⟩ := hp_15
  rw [he_15] at hW
  subst hr_15
  have hz_15 := rdz_rng (nm := nm) (ln := ln) (z := 0) (lo := 1) (hi := 8) (by decide)
  refine lv_istore_n (lv' := [(2, .int (iI (rdz nm ln (0) (1) (8)))), (0, .ref (A (i))), (1, .ref (A (r)))]) X.1 X.2.1 dX0_readFrom_18 rfl hl (by decide) rfl (fun ls hl => ?_)
  refine lv_iload_n X.1 X.2.1 dX0_readFrom_19 rfl (lv_at hl 0 rfl) ?_
  refine x_if_ge (tgt := 25) X ⟨by omega, by omega⟩ dX0_readFrom_20 (by decide) (fun b_20 => ?_) (fun b_20 => ?_)
  · have hP8 : rdz nm ln 0 1 8 ≤ 8 ∧ 1 ≤ rdz nm ln 0 1 8 := by omega
    refine x_iconst X dX0_readFrom_25 ?_
    refine x_seti (((0 : Nat) : Int)) rfl ?_
    refine lv_istore_n (lv' := [(3, .int (iI (((0 : Nat) : Int)))), (2, .int (iI (rdz nm ln (0) (1) (8)))), (0, .ref (A (i))), (1, .ref (A (r)))]) X.1 X.2.1 dX0_readFrom_26 rfl hl (by decide) rfl (fun ls hl => ?_)
    have loop_27 : ∀ (fuel : Nat) (k : Nat) (bz : Nat) (wo : Nat → Nat) (we : Nat → Nat) (tot : Nat) (g1 : Nat → va_E) (H : Heap) (locs : List Loc) (ls : Array Slot), (8 - k) < fuel → ((k : Int) ≤ rdz nm ln 0 1 8) → (BookC E A g1 i bz wo we tot) → (BookP bz wo we tot (rdL nm k)) → (bz ≤ k) → (tot ≤ 1000 * k) → (rdE nm ln k = 0) → (∀ j, (j < i ∨ i + 2 < j) → g1 j = g j) → wH E (wF A n sz) A n s g1 H locs → lv_has ls 6 [(0, .ref (A (i))), (1, .ref (A (r))), (2, .int (iI (rdz nm ln 0 1 8))), (3, .int (iI ((k : Int))))] → W p l e ({ frames := 3, cells := 0, slots := 0, locals := 120 } : Room) s m [.ref (A (i)), .ref (A (r))].toArray below meth c H locs 0 0 (MQ below (va_Qi (fun z g' => z = iI (rdB2 nm ln) ∧ (rdB2 nm ln = 0 → BookV E A g' i (rdL nm (rdz nm ln 0 1 8).toNat)) ∧ BookX E A g' i ∧ ∀ j, (j < i ∨ i + 2 < j) → g' j = g j) (wAt E A n) (wF A n sz)) [.ref (A (i)), .ref (A (r))].toArray s 0 0 (wF A n sz)) (F0 m 27 ls []) := by
      intro fuel
      induction fuel with
      | zero => intro k bz wo we tot g1 H locs ls hm; exact absurd hm (Nat.not_lt_zero _)
      | succ fuel ih_27 =>
        intro k bz wo we tot g1 H locs ls hm hk hC hp hbk htk hE hfr hW hl
        have hC0 := hC
        obtain ⟨h0, hs8, f, h, h1, h2, hf⟩ := hC
        have hR : RowV E A g1 r w ln nm := hR0.frame (hfr _ (by omega)) (hfr _ (by omega))
        refine lv_iload_n X.1 X.2.1 dX0_readFrom_27 rfl (lv_at hl 3 rfl) ?_
        refine lv_iload_n X.1 X.2.1 dX0_readFrom_28 rfl (lv_at hl 2 rfl) ?_
        refine x_icmp_ge (tgt := 92) X ⟨by omega, by omega⟩ ⟨by omega, by omega⟩ dX0_readFrom_29 (by decide) (fun b_29 => ?_) (fun b_29 => ?_)
        · have hkP : (rdz nm ln 0 1 8).toNat = k := by omega
          refine lv_aload_n X.1 X.2.1 dX0_readFrom_92 rfl (lv_at hl 0 rfl) ?_
          refine x_get (C := RX0) (T := TX0) (N := 4) X hW (by omega) h0 rfl lk_0 3 (by decide) lk_2 rfl dX0_readFrom_93 ?_
          refine x_if_ne (tgt := 104) X ⟨by omega, by have := hp.2.2.2.2; omega⟩ dX0_readFrom_96 (by decide) (fun b_96 => ?_) (fun b_96 => ?_)
          · have hPn : ¬ rdz nm ln 0 1 8 < 0 := by omega
            have hre : rdB2 nm ln = 0 := by
              unfold rdB2
              rw [if_neg hPn, if_neg (by rw [hkP]; exact not_not_intro hE), hkP, if_neg (by rw [← hp.2.2.2.1]; omega)]
            refine x_iconst X dX0_readFrom_104 ?_
            exact x_iret X hr hlk hW (⟨by rw [hre], fun h9 => ⟨bz, wo, we, tot, hC0, by rw [hkP]; exact hp⟩, ⟨bz, wo, we, tot, hC0⟩, hfr⟩) dX0_readFrom_105
          · have hPn : ¬ rdz nm ln 0 1 8 < 0 := by omega
            have hre : rdB2 nm ln = -4 := by
              unfold rdB2
              rw [if_neg hPn, if_neg (by rw [hkP]; exact not_not_intro hE), hkP, if_pos (by rw [← hp.2.2.2.1]; omega)]
            refine x_bipush X (by decide) dX0_readFrom_99 ?_
            refine lv_goto (tgt := 105) X.1 X.2.1 dX0_readFrom_101 (by decide) ?_
            exact x_iret X hr hlk hW (⟨by rw [hre], fun h9 => absurd h9 (by rw [hre]; omega), ⟨bz, wo, we, tot, hC0⟩, hfr⟩) dX0_readFrom_105
        · have hk8 : k < 8 := by omega
          refine lv_aload_n X.1 X.2.1 dX0_readFrom_32 rfl (lv_at hl 1 rfl) ?_
          refine x_iconst X dX0_readFrom_33 ?_
          refine lv_iload_n X.1 X.2.1 dX0_readFrom_34 rfl (lv_at hl 3 rfl) ?_
          refine x_imul X dX0_readFrom_35 ?_
          refine x_iconst X dX0_readFrom_36 ?_
          refine x_iadd X dX0_readFrom_37 ?_
          refine x_iconst X dX0_readFrom_38 ?_
          refine x_sipush X (by decide) dX0_readFrom_39 ?_
          refine x_ci (x_runV (k := 3) (As := [.int (iI ((2 * ((k : Int))) + 1)), .int (iI (0)), .int (iI (1000))]) (rest := []) X hW (c_X9_read l E A n _ g1 r w ln nm (2 * (k : Int) + 1) (0) (1000) hr1 hR ⟨by omega, by omega⟩ ⟨by decide, by decide⟩ ⟨by decide, by decide⟩) (by omega) hR.1 rfl gX0_readFrom_X9_read rfl rfl rfl (by decide +kernel) ⟨by decide, by decide⟩ rfl hl.1 rfl (Nat.le_of_ble_eq_true rfl) dX0_readFrom_42 ⟨Nat.zero_le _, Nat.zero_le _⟩) hW (fun r_42 g_42 H locs hp_42 hW => ?_)
          obtain ⟨hr_42, he_42⟩ := hp_42
          rw [he_42] at hW
          subst hr_42
          have hz_42 := rdz_rng (nm := nm) (ln := ln) (z := 2 * (k : Int) + 1) (lo := 0) (hi := 1000) (by decide)
          refine lv_istore (lv' := [(4, .int (iI (rdz nm ln (2 * (k : Int) + 1) (0) (1000)))), (0, .ref (A (i))), (1, .ref (A (r))), (2, .int (iI (rdz nm ln 0 1 8))), (3, .int (iI ((k : Int))))]) X.1 X.2.1 dX0_readFrom_45 hl (by decide) rfl (fun ls hl => ?_)
          refine lv_iload X.1 X.2.1 dX0_readFrom_47 (lv_at hl 0 rfl) ?_
          refine x_if_ge (tgt := 55) X ⟨by omega, by omega⟩ dX0_readFrom_49 (by decide) (fun b_49 => ?_) (fun b_49 => ?_)
          · have b_49 : ¬ rdz nm ln (2 * (k : Int) + 1) 0 1000 < 0 := by omega
            refine lv_aload_n X.1 X.2.1 dX0_readFrom_55 rfl (lv_at hl 2 rfl) ?_
            refine x_iconst X dX0_readFrom_56 ?_
            refine lv_iload_n X.1 X.2.1 dX0_readFrom_57 rfl (lv_at hl 4 rfl) ?_
            refine x_imul X dX0_readFrom_58 ?_
            refine x_iconst X dX0_readFrom_59 ?_
            refine x_iadd X dX0_readFrom_60 ?_
            refine x_iconst X dX0_readFrom_61 ?_
            refine x_sipush X (by decide) dX0_readFrom_62 ?_
            refine x_ci (x_runV (k := 3) (As := [.int (iI ((2 * ((k : Int))) + 2)), .int (iI (0)), .int (iI (1000))]) (rest := []) X hW (c_X9_read l E A n _ g1 r w ln nm (2 * (k : Int) + 2) (0) (1000) hr1 hR ⟨by omega, by omega⟩ ⟨by decide, by decide⟩ ⟨by decide, by decide⟩) (by omega) hR.1 rfl gX0_readFrom_X9_read rfl rfl rfl (by decide +kernel) ⟨by decide, by decide⟩ rfl hl.1 rfl (Nat.le_of_ble_eq_true rfl) dX0_readFrom_65 ⟨Nat.zero_le _, Nat.zero_le _⟩) hW (fun r_65 g_65 H locs hp_65 hW => ?_)
            obtain ⟨hr_65, he_65⟩ := hp_65
            rw [he_65] at hW
            subst hr_65
            have hz_65 := rdz_rng (nm := nm) (ln := ln) (z := 2 * (k : Int) + 2) (lo := 0) (hi := 1000) (by decide)
            refine lv_istore (lv' := [(5, .int (iI (rdz nm ln (2 * (k : Int) + 2) (0) (1000)))), (4, .int (iI (rdz nm ln (2 * (k : Int) + 1) (0) (1000)))), (0, .ref (A (i))), (1, .ref (A (r))), (2, .int (iI (rdz nm ln 0 1 8))), (3, .int (iI ((k : Int))))]) X.1 X.2.1 dX0_readFrom_68 hl (by decide) rfl (fun ls hl => ?_)
            refine lv_iload X.1 X.2.1 dX0_readFrom_70 (lv_at hl 0 rfl) ?_
            refine x_if_ge (tgt := 78) X ⟨by omega, by omega⟩ dX0_readFrom_72 (by decide) (fun b_72 => ?_) (fun b_72 => ?_)
            · have b_72 : ¬ rdz nm ln (2 * (k : Int) + 2) 0 1000 < 0 := by omega
              have e1 : (2 * (k : Int) + 1).toNat = 2 * k + 1 := by omega
              have e2 : (2 * (k : Int) + 2).toNat = 2 * k + 2 := by omega
              rw [e1] at hz_42
              rw [e2] at hz_65
              refine lv_aload_n X.1 X.2.1 dX0_readFrom_78 rfl (lv_at hl 2 rfl) ?_
              refine lv_iload X.1 X.2.1 dX0_readFrom_79 (lv_at hl 1 rfl) ?_
              refine x_seti ((((nm (2 * k + 1)).toNat : Nat) : Int)) (by omega) ?_
              refine lv_iload X.1 X.2.1 dX0_readFrom_81 (lv_at hl 0 rfl) ?_
              refine x_seti ((((nm (2 * k + 2)).toNat : Nat) : Int)) (by omega) ?_
              refine x_cv (x_runV (k := 2) (As := [.int (iI ((((nm (2 * k + 1)).toNat : Nat) : Int))), .int (iI ((((nm (2 * k + 2)).toNat : Nat) : Int)))]) (rest := []) X hW (c_X0_addPair l E A n _ g1 i bz wo we tot (rdL nm k) (nm (2 * k + 1)).toNat (nm (2 * k + 2)).toNat hi ⟨h0, hs8, f, h, h1, h2, hf⟩ hp (by omega) (by omega) (by omega) (by omega)) (by omega) h0 rfl gX0_readFrom_X0_addPair rfl rfl rfl (by decide +kernel) ⟨by decide, by decide⟩ rfl hl.1 rfl (Nat.le_of_ble_eq_true rfl) dX0_readFrom_83 ⟨Nat.zero_le _, Nat.zero_le _⟩) hW (fun g_83 H locs hp_83 hW => ?_)
              obtain ⟨⟨bz2, wo2, we2, hC2, hp2, hb2⟩, hf_83⟩ := hp_83
              have hfr : ∀ j, (j < i ∨ i + 2 < j) → g_83 j = g j := fun j hj => (hf_83 j hj).trans (hfr j hj)
              refine lv_iinc (v := iI (((k + 1 : Nat) : Int))) (lv' := [(3, .int (iI (((k + 1 : Nat) : Int)))), (5, .int (iI (rdz nm ln (2 * (k : Int) + 2) (0) (1000)))), (4, .int (iI (rdz nm ln (2 * (k : Int) + 1) (0) (1000)))), (0, .ref (A (i))), (1, .ref (A (r))), (2, .int (iI (rdz nm ln 0 1 8)))]) X.1 X.2.1 dX0_readFrom_86 hl (k := 5) rfl (by rw [show (Int32.ofInt (1)) = iI (1) from rfl, iI_add]; rfl) (by decide) rfl (fun ls hl => ?_)
              refine lv_goto (tgt := 27) X.1 X.2.1 dX0_readFrom_89 (by decide) ?_
              exact ih_27 (k + 1) bz2 wo2 we2 _ g_83 _ _ _ (by omega) (by omega) hC2 hp2 (by omega) (by omega) (rdE_c hE b_49 b_72) hfr hW (lv_sub hl [3, 4, 5, 0] rfl)
            · have hPn : ¬ rdz nm ln 0 1 8 < 0 := by omega
              have hre : rdB2 nm ln = rdz nm ln (2 * (k : Int) + 2) 0 1000 := by
                have e9 := rdE_b hE b_49 (show rdz nm ln (2 * (k : Int) + 2) 0 1000 < 0 by omega)
                have e8 := rdE_keep (nm := nm) (ln := ln) (a := k + 1) (b := (rdz nm ln 0 1 8).toNat) (by omega) (by rw [e9]; omega)
                unfold rdB2
                rw [if_neg hPn, if_pos (by rw [e8, e9]; omega), e8, e9]
              refine lv_iload X.1 X.2.1 dX0_readFrom_75 (lv_at hl 0 rfl) ?_
              exact x_iret X hr hlk hW (⟨by rw [hre], fun h9 => absurd h9 (by rw [hre]; omega), ⟨bz, wo, we, tot, hC0⟩, hfr⟩) dX0_readFrom_77
          · have hPn : ¬ rdz nm ln 0 1 8 < 0 := by omega
            have hre : rdB2 nm ln = rdz nm ln (2 * (k : Int) + 1) 0 1000 := by
              have e9 := rdE_a hE (show rdz nm ln (2 * (k : Int) + 1) 0 1000 < 0 by omega)
              have e8 := rdE_keep (nm := nm) (ln := ln) (a := k + 1) (b := (rdz nm ln 0 1 8).toNat) (by omega) (by rw [e9]; omega)
              unfold rdB2
              rw [if_neg hPn, if_pos (by rw [e8, e9]; omega), e8, e9]
            refine lv_iload X.1 X.2.1 dX0_readFrom_52 (lv_at hl 0 rfl) ?_
            exact x_iret X hr hlk hW (⟨by rw [hre], fun h9 => absurd h9 (by rw [hre]; omega), ⟨bz, wo, we, tot, hC0⟩, hfr⟩) dX0_readFrom_54
    exact loop_27 _ 0 0 wo we 0 g_7 _ _ _ (Nat.lt_succ_self _) (by omega) ⟨h0, by decide, f, h, h1, h2, fun k hk => absurd hk (Nat.not_lt_zero _)⟩ (BookP_0 wo we) (Nat.le_refl _) (Nat.le_refl _) rfl hfr hW (lv_sub hl [2, 3, 1, 0] rfl)
  · refine lv_iload_n X.1 X.2.1 dX0_readFrom_23 rfl (lv_at hl 0 rfl) ?_
    exact x_iret X hr hlk hW (⟨by unfold rdB2; rw [if_pos (by omega)], fun h9 => absurd h9 (by unfold rdB2; rw [if_pos (by omega)]; omega), ⟨0, wo, we, 0, h0, by decide, f, h, h1, h2, fun k hk => absurd hk (Nat.not_lt_zero _)⟩, hfr⟩) dX0_readFrom_24
