/-! ===== the class: books and comers ===== -/
theorem KB.add {E : wE} {A : Nat → Nat} {g g' : Nat → va_E} {i bk : Nat} {L : Nat → List (Nat × Nat)} (h : KB E A g i bk L) (hb : bk < 16) {L0 : List (Nat × Nat)} (hV : BookV E A g' (i + 162 + 3 * bk) L0) (ht : 0 < bE L0 (fun _ => 1)) (hf : ∀ j, (j ≠ i ∧ (j < i + 162 + 3 * bk ∨ i + 162 + 3 * bk + 2 < j)) → g' j = g j) : KB E A g' i (bk + 1) (va_up L bk L0) := by
  obtain ⟨⟨f, a, b⟩, c, d, e⟩ := h
  refine ⟨⟨f, (hf _ (by omega)).trans a, b⟩, by omega, fun k hk => ?_, fun k hk => ?_⟩
  · by_cases q : k = bk
    · subst q; rw [va_up_self]; exact ⟨hV, ht⟩
    · rw [va_up_ne _ _ q]
      exact ⟨(d k (by omega)).1.frame (hf _ (by omega)) (hf _ (by omega)) (hf _ (by omega)), (d k (by omega)).2⟩
  · by_cases q : k = bk
    · subst q; exact hV.any
    · exact (e k hk).frame (hf _ (by omega)) (hf _ (by omega)) (hf _ (by omega))
theorem KB.keep {E : wE} {A : Nat → Nat} {g g' : Nat → va_E} {i bk : Nat} {L : Nat → List (Nat × Nat)} (h : KB E A g i bk L) (hb : bk < 16) (hV : BookX E A g' (i + 162 + 3 * bk)) (hf : ∀ j, (j < i + 162 + 3 * bk ∨ i + 162 + 3 * bk + 2 < j) → g' j = g j) : KB E A g' i bk L := by
  obtain ⟨⟨f, a, b⟩, c, d, e⟩ := h
  refine ⟨⟨f, (hf _ (by omega)).trans a, b⟩, c, fun k hk => ⟨(d k hk).1.frame (hf _ (by omega)) (hf _ (by omega)) (hf _ (by omega)), (d k hk).2⟩, fun k hk => ?_⟩
  by_cases q : k = bk
  · subst q; exact hV
  · exact (e k hk).frame (hf _ (by omega)) (hf _ (by omega)) (hf _ (by omega))
theorem rd_zero {nm : Nat → Int} {ln : Int} (h : rdB2 nm ln = 0) : (rdz nm ln 0 1 8).toNat = (nm 0).toNat ∧ 0 < bE (rdL nm (rdz nm ln 0 1 8).toNat) (fun _ => 1) := by
  have hr := rdz_rng (nm := nm) (ln := ln) (z := 0) (lo := 1) (hi := 8) (by omega)
  unfold rdB2 at h
  by_cases c1 : rdz nm ln 0 1 8 < 0
  · rw [if_pos c1] at h; omega
  · rw [if_neg c1] at h
    refine ⟨?_, ?_⟩
    · have h2 : rdz nm ln 0 1 8 = nm (0 : Int).toNat := by omega
      rw [h2]; rfl
    · by_cases c2 : rdE nm ln (rdz nm ln 0 1 8).toNat ≠ 0
      · rw [if_pos c2] at h; exact absurd h c2
      · rw [if_neg c2] at h
        by_cases c3 : bE (rdL nm (rdz nm ln 0 1 8).toNat) (fun _ => 1) = 0
        · rw [if_pos c3] at h; exact absurd h (by decide)
        · omega
theorem rd_neg {nm : Nat → Int} {ln : Int} (h : rdB2 nm ln ≠ 0) : rdB2 nm ln < 0 ∧ -10 < rdB2 nm ln := by
  have hr := rdz_rng (nm := nm) (ln := ln) (z := 0) (lo := 1) (hi := 8) (by omega)
  have key : ∀ k, rdE nm ln k = 0 ∨ rdE nm ln k = -6 ∨ rdE nm ln k = -4 := by
    intro k
    induction k with
    | zero => exact Or.inl rfl
    | succ k ih =>
      have h1 := rdz_rng (nm := nm) (ln := ln) (z := 2 * (k : Int) + 1) (lo := 0) (hi := 1000) (by omega)
      have h2 := rdz_rng (nm := nm) (ln := ln) (z := 2 * (k : Int) + 2) (lo := 0) (hi := 1000) (by omega)
      by_cases c0 : rdE nm ln k = 0
      · by_cases c1 : rdz nm ln (2 * (k : Int) + 1) 0 1000 < 0
        · rw [rdE_a c0 c1]; omega
        · by_cases c2 : rdz nm ln (2 * (k : Int) + 2) 0 1000 < 0
          · rw [rdE_b c0 c1 c2]; omega
          · exact Or.inl (rdE_c c0 c1 c2)
      · rw [rdE_keep (Nat.le_succ k) c0]; exact ih
  have k2 := key (rdz nm ln 0 1 8).toNat
  unfold rdB2 at h ⊢
  by_cases c1 : rdz nm ln 0 1 8 < 0
  · rw [if_pos c1]; omega
  · rw [if_neg c1] at h ⊢
    by_cases c2 : rdE nm ln (rdz nm ln 0 1 8).toNat ≠ 0
    · rw [if_pos c2]; omega
    · rw [if_neg c2] at h ⊢
      by_cases c3 : bE (rdL nm (rdz nm ln 0 1 8).toNat) (fun _ => 1) = 0
      · rw [if_pos c3]; omega
      · rw [if_neg c3] at h; exact absurd rfl h

set_option maxHeartbeats 4000000 in
set_option maxRecDepth 100000 in
/-- book -/
theorem c_X10_book (l : Launch) (E : wE) (A : Nat → Nat) (n sz : Nat) (g : Nat → va_E) (i bk : Nat) (rw rl : Nat → Int) (nm : Nat → Nat → Int) (L : Nat → List (Nat × Nat)) (z : Int) (hi : i + 209 < n) (hO : g i = kO A i bk) (hR : KR E A g i rw rl nm) (hB : KB E A g i bk L) (hz : I32 z) : Met l yX10_book wsX10_book ({ frames := 5, cells := 0, slots := 0, locals := 200 } : Room) (va_Pc [.ref (A (i)), .int (iI (z))] (wPre E A n sz g)) (va_Qi (fun r g' => r = iI (bkR rl nm bk z) ∧ (0 ≤ bkR rl nm bk z → g' i = kO A i (bk + 1) ∧ KB E A g' i (bk + 1) (va_up L bk (rdL (nm z.toNat) (nm z.toNat 0).toNat))) ∧ (bkR rl nm bk z < 0 → g' i = kO A i bk ∧ KB E A g' i bk L) ∧ ∀ j, (j ≠ i ∧ (j < i + 162 ∨ i + 209 < j)) → g' j = g j) (wAt E A n) (wF A n sz)) 0 0 (wF A n sz) := by
  refine x_met (cc := cX10_book) (maxL := 3) (ret := (some .int)) [.ref (A (i)), .int (iI (z))] (by decide) rfl (Nat.le_of_ble_eq_true rfl) ?_
  intro p_ e_ s_ m_ below meth c_ ls X hr hlk hnm hsz hW hl
  have hl : lv_has ls 3 [(0, .ref (A (i))), (1, .int (iI (z)))] := hl
  have lk_0 : ∀ w ∈ wsX100, w ∈ wsX10_book := by decide +kernel
  have lk_1 : Cond.fieldLink RX10 21 (TX10 2).1 (TX10 2).2.1 (TX10 2).2.2.1 ∈ wsX10_book := by decide +kernel
  have lk_2 : Cond.fieldLink RX10 11 (TX10 0).1 (TX10 0).2.1 (TX10 0).2.2.1 ∈ wsX10_book := by decide +kernel
  have lk_3 : Cond.fieldLink RX10 17 (TX10 1).1 (TX10 1).2.1 (TX10 1).2.2.1 ∈ wsX10_book := by decide +kernel
  have hO : g i = .inr (10, [.ref (A (i + 1)), .ref (A (i + 2)), .int (iI ((bk : Int))), .ref (A (i + 3)), .ref (A (i + 12)), .ref (A (i + 54)), .ref (A (i + 65)), .ref (A (i + 114)), .ref (A (i + 123))]) := hO
  have hz1 := hz.1
  have hz2 := hz.2
  obtain ⟨⟨f1, h1, hf1⟩, hrv⟩ := id hR
  obtain ⟨⟨f2, h2, hf2⟩, hbk, hbv, hbx⟩ := id hB
  refine lv_iload_n X.1 X.2.1 dX10_book_0 rfl (lv_at hl 1 rfl) ?_
  refine x_ci (x_runS (k := 1) (As := [.int (iI (z))]) (rest := []) X hW (c_X10_isSlot l E A n _ g z hz) gX10_book_X10_isSlot rfl rfl rfl (by decide +kernel) ⟨by decide, by decide⟩ rfl hl.1 rfl (Nat.le_of_ble_eq_true rfl) dX10_book_1 ⟨Nat.zero_le _, Nat.zero_le _⟩) hW (fun r_1 g_1 H locs hp_1 hW => ?_)
  obtain ⟨hr_1, he_1⟩ := hp_1
  rw [he_1] at hW
  subst hr_1
  refine x_if_ne (tgt := 10) X ⟨by split <;> decide, by split <;> decide⟩ dX10_book_4 (by decide) (fun b_4 => ?_) (fun b_4 => ?_)
  · have hs : 0 ≤ z ∧ z ≤ 9 := Decidable.byContradiction (fun h => by rw [if_neg h] at b_4; exact b_4 rfl)
    have hrw := hrv z.toNat (by omega)
    have hro := hrw.1
    refine lv_aload_n X.1 X.2.1 dX10_book_10 rfl (lv_at hl 0 rfl) ?_
    refine x_get (C := RX10) (T := TX10) (N := 9) X hW (by omega) hO rfl lk_0 2 (by decide) lk_1 rfl dX10_book_11 ?_
    refine x_bipush X (by decide) dX10_book_14 ?_
    refine x_icmp_lt (tgt := 22) X ⟨by omega, by omega⟩ ⟨by decide, by decide⟩ dX10_book_16 (by decide) (fun b_16 => ?_) (fun b_16 => ?_)
    · have hbk15 : ¬ bk = 16 := by omega
      obtain ⟨bz0, wo0, we0, tot0, hbc0⟩ := hbx bk (by omega)
      have hbo := hbc0.1
      refine lv_aload_n X.1 X.2.1 dX10_book_22 rfl (lv_at hl 0 rfl) ?_
      refine x_get (C := RX10) (T := TX10) (N := 9) X hW (by omega) hO rfl lk_0 0 (by decide) lk_2 rfl dX10_book_23 ?_
      refine lv_iload_n X.1 X.2.1 dX10_book_26 rfl (lv_at hl 1 rfl) ?_
      refine x_aald X hW (by omega) h1 rfl (j := i + 142 + 2 * z.toNat) z.toNat (by omega) (by omega) (by decide) (hf1 z.toNat (by omega)) dX10_book_27 ?_
      refine x_ci (x_runV (k := 0) (As := []) (rest := []) X hW (c_X9_isThere l E A n _ g (i + 142 + 2 * z.toNat) (rw z.toNat) (rl z.toNat) (nm z.toNat) (by omega) hrw) (by omega) hro rfl gX10_book_X9_isThere rfl rfl rfl (by decide +kernel) ⟨by decide, by decide⟩ rfl hl.1 rfl (Nat.le_of_ble_eq_true rfl) dX10_book_28 ⟨Nat.zero_le _, Nat.zero_le _⟩) hW (fun r_28 g_28 H locs hp_28 hW => ?_)
      obtain ⟨hr_28, he_28⟩ := hp_28
      rw [he_28] at hW
      subst hr_28
      refine x_if_ne (tgt := 37) X ⟨by split <;> decide, by split <;> decide⟩ dX10_book_31 (by decide) (fun b_31 => ?_) (fun b_31 => ?_)
      · have hth : rl z.toNat ≠ -1 := fun h => by rw [if_pos h] at b_31; exact b_31 rfl
        refine lv_aload_n X.1 X.2.1 dX10_book_37 rfl (lv_at hl 0 rfl) ?_
        refine x_get (C := RX10) (T := TX10) (N := 9) X hW (by omega) hO rfl lk_0 1 (by decide) lk_3 rfl dX10_book_38 ?_
        refine lv_aload_n X.1 X.2.1 dX10_book_41 rfl (lv_at hl 0 rfl) ?_
        refine x_get (C := RX10) (T := TX10) (N := 9) X hW (by omega) hO rfl lk_0 2 (by decide) lk_1 rfl dX10_book_42 ?_
        refine x_aald X hW (by omega) h2 rfl (j := i + 162 + 3 * bk) bk (by omega) (by omega) (by decide) (hf2 bk (by omega)) dX10_book_45 ?_
        refine lv_aload_n X.1 X.2.1 dX10_book_46 rfl (lv_at hl 0 rfl) ?_
        refine x_get (C := RX10) (T := TX10) (N := 9) X hW (by omega) hO rfl lk_0 0 (by decide) lk_2 rfl dX10_book_47 ?_
        refine lv_iload_n X.1 X.2.1 dX10_book_50 rfl (lv_at hl 1 rfl) ?_
        refine x_aald X hW (by omega) h1 rfl (j := i + 142 + 2 * z.toNat) z.toNat (by omega) (by omega) (by decide) (hf1 z.toNat (by omega)) dX10_book_51 ?_
        refine x_ci (x_runV (k := 1) (As := [.ref (A (i + 142 + 2 * z.toNat))]) (rest := []) X hW (c_X0_readFrom l E A n _ g (i + 162 + 3 * bk) (i + 142 + 2 * z.toNat) (rw z.toNat) (rl z.toNat) (nm z.toNat) (by omega) (by omega) (by omega) (hbx bk (by omega)) hrw) (by omega) hbo rfl gX10_book_X0_readFrom rfl rfl rfl (by decide +kernel) ⟨by decide, by decide⟩ rfl hl.1 rfl (Nat.le_of_ble_eq_true rfl) dX10_book_52 ⟨Nat.zero_le _, Nat.zero_le _⟩) hW (fun r_52 g_52 H locs hp_52 hW => ?_)
        obtain ⟨hr_52, hbV, hbX, hf_52⟩ := hp_52
        subst hr_52
        have hO : g_52 i = .inr (10, [.ref (A (i + 1)), .ref (A (i + 2)), .int (iI ((bk : Int))), .ref (A (i + 3)), .ref (A (i + 12)), .ref (A (i + 54)), .ref (A (i + 65)), .ref (A (i + 114)), .ref (A (i + 123))]) := (hf_52 _ (by omega)).trans hO
        have hrr : I32 (rdB2 (nm z.toNat) (rl z.toNat)) := by
          by_cases h9 : rdB2 (nm z.toNat) (rl z.toNat) = 0
          · rw [h9]; exact I32_0
          · have h8 := rd_neg h9; exact ⟨by omega, by omega⟩
        refine lv_istore_n (lv' := [(2, .int (iI (rdB2 (nm z.toNat) (rl z.toNat)))), (0, .ref (A (i))), (1, .int (iI (z)))]) X.1 X.2.1 dX10_book_55 rfl hl (by decide) rfl (fun ls hl => ?_)
        refine lv_iload_n X.1 X.2.1 dX10_book_56 rfl (lv_at hl 0 rfl) ?_
        refine x_if_eq (tgt := 62) X hrr dX10_book_57 (by decide) (fun b_57 => ?_) (fun b_57 => ?_)
        · have hR0 : bkR rl nm bk z = (bk : Int) := by unfold bkR; rw [if_pos hs, if_neg hbk15, if_neg hth, if_neg (fun h => h b_57)]
          obtain ⟨hrz1, hrz2⟩ := rd_zero b_57
          have hbV1 := hbV b_57
          rw [hrz1] at hbV1 hrz2
          refine lv_aload_n X.1 X.2.1 dX10_book_62 rfl (lv_at hl 1 rfl) ?_
          refine lv_dup X.1 X.2.1 dX10_book_63 rfl ?_
          refine x_get (C := RX10) (T := TX10) (N := 9) X hW (by omega) hO rfl lk_0 2 (by decide) lk_1 rfl dX10_book_64 ?_
          refine x_iconst X dX10_book_67 ?_
          refine x_iadd X dX10_book_68 ?_
          refine x_seti (((bk + 1 : Nat) : Int)) (by omega) ?_
          refine x_put (C := RX10) (T := TX10) (N := 9) X hW (by omega) hO rfl lk_0 tyX10 tyX10_ok nmX10 2 (by decide) lk_1 rfl rfl rfl (Nat.le_of_ble_eq_true rfl) dX10_book_69 (fun g_69 H locs hg_69 hW => ?_)
          have hO : g_69 i = .inr (10, [.ref (A (i + 1)), .ref (A (i + 2)), .int (iI (((bk + 1 : Nat) : Int))), .ref (A (i + 3)), .ref (A (i + 12)), .ref (A (i + 54)), .ref (A (i + 65)), .ref (A (i + 114)), .ref (A (i + 123))]) := by rw [hg_69]; exact va_up_self _ _ _
          refine lv_aload_n X.1 X.2.1 dX10_book_72 rfl (lv_at hl 1 rfl) ?_
          refine x_get (C := RX10) (T := TX10) (N := 9) X hW (by omega) hO rfl lk_0 2 (by decide) lk_1 rfl dX10_book_73 ?_
          refine x_iconst X dX10_book_76 ?_
          refine x_isub X dX10_book_77 ?_
          exact x_iret X hr hlk hW (⟨by rw [hR0]; congr 1; omega, fun _ => ⟨hO, hB.add (by omega) (hbV1.frame (by rw [hg_69, va_up_ne _ _ (by omega)]) (by rw [hg_69, va_up_ne _ _ (by omega)]) (by rw [hg_69, va_up_ne _ _ (by omega)])) hrz2 (fun j hj => (show g_69 j = g_52 j by rw [hg_69, va_up_ne _ _ (by omega)]).trans (hf_52 j (by omega)))⟩, fun h => by rw [hR0] at h; omega, fun j hj => (show g_69 j = g_52 j by rw [hg_69, va_up_ne _ _ (by omega)]).trans (hf_52 j (by omega))⟩) dX10_book_78
        · have hR0 : bkR rl nm bk z = rdB2 (nm z.toNat) (rl z.toNat) := by unfold bkR; rw [if_pos hs, if_neg hbk15, if_neg hth, if_pos b_57]
          have hng := rd_neg b_57
          refine lv_iload_n X.1 X.2.1 dX10_book_60 rfl (lv_at hl 0 rfl) ?_
          exact x_iret X hr hlk hW (⟨by rw [hR0], fun h => by rw [hR0] at h; omega, fun _ => ⟨hO, hB.keep (by omega) hbX hf_52⟩, fun j hj => hf_52 j (by omega)⟩) dX10_book_61
      · have hth : rl z.toNat = -1 := Decidable.byContradiction (fun h => by rw [if_neg h] at b_31; omega)
        have hR0 : bkR rl nm bk z = -5 := by unfold bkR; rw [if_pos hs, if_neg hbk15, if_pos hth]
        refine x_bipush X (by decide) dX10_book_34 ?_
        exact x_iret X hr hlk hW (⟨by rw [hR0], fun h => by rw [hR0] at h; omega, fun _ => ⟨hO, hB⟩, fun _ _ => rfl⟩) dX10_book_36
    · have hR0 : bkR rl nm bk z = -8 := by unfold bkR; rw [if_pos hs, if_pos (by omega)]
      refine x_bipush X (by decide) dX10_book_19 ?_
      exact x_iret X hr hlk hW (⟨by rw [hR0], fun h => by rw [hR0] at h; omega, fun _ => ⟨hO, hB⟩, fun _ _ => rfl⟩) dX10_book_21
  · have hs : ¬ (0 ≤ z ∧ z ≤ 9) := fun h => by rw [if_pos h] at b_4; omega
    refine x_bipush X (by decide) dX10_book_7 ?_
    exact x_iret X hr hlk hW (⟨by unfold bkR; rw [if_neg hs], fun h => by unfold bkR at h; rw [if_neg hs] at h; omega, fun _ => ⟨hO, hB⟩, fun _ _ => rfl⟩) dX10_book_9

theorem bcl_up (i : Nat) (co : Nat → Nat) (cz b : Nat) : va_up (bcl i co) cz (i + 162 + 3 * b) = bcl i (va_up co cz b) := by
  funext k
  unfold bcl
  by_cases e : k = cz
  · rw [e, va_up_self, va_up_self]
  · rw [va_up_ne _ _ e, va_up_ne _ _ e]

set_option maxHeartbeats 4000000 in
set_option maxRecDepth 100000 in
/-- comer -/
theorem c_X10_comer (l : Launch) (E : wE) (A : Nat → Nat) (n sz : Nat) (g : Nat → va_E) (i bk : Nat) (L : Nat → List (Nat × Nat)) (cz : Nat) (co br : Nat → Nat) (z : Int) (hi : i + 209 < n) (hO : g i = kO A i bk) (hB : KB E A g i bk L) (hC : ComV E A g (i + 12) cz (bcl i co) br) (hz : I32 z) : Met l yX10_comer wsX10_comer ({ frames := 4, cells := 0, slots := 0, locals := 160 } : Room) (va_Pc [.ref (A (i)), .int (iI (z))] (wPre E A n sz g)) (va_Qi (fun r g' => r = iI (coR bk cz z) ∧ (0 ≤ coR bk cz z → ComV E A g' (i + 12) (cz + 1) (bcl i (va_up co cz z.toNat)) (va_up br cz 0)) ∧ (coR bk cz z < 0 → g' = g) ∧ ∀ j, (j < i + 12 ∨ i + 53 < j) → g' j = g j) (wAt E A n) (wF A n sz)) 0 0 (wF A n sz) := by
  refine x_met (cc := cX10_comer) (maxL := 2) (ret := (some .int)) [.ref (A (i)), .int (iI (z))] (by decide) rfl (Nat.le_of_ble_eq_true rfl) ?_
  intro p_ e_ s_ m_ below meth c_ ls X hr hlk hnm hsz hW hl
  have hl : lv_has ls 2 [(0, .ref (A (i))), (1, .int (iI (z)))] := hl
  have lk_0 : ∀ w ∈ wsX100, w ∈ wsX10_comer := by decide +kernel
  have lk_1 : Cond.fieldLink RX10 35 (TX10 4).1 (TX10 4).2.1 (TX10 4).2.2.1 ∈ wsX10_comer := by decide +kernel
  have lk_2 : Cond.fieldLink RX10 17 (TX10 1).1 (TX10 1).2.1 (TX10 1).2.2.1 ∈ wsX10_comer := by decide +kernel
  have hO : g i = .inr (10, [.ref (A (i + 1)), .ref (A (i + 2)), .int (iI ((bk : Int))), .ref (A (i + 3)), .ref (A (i + 12)), .ref (A (i + 54)), .ref (A (i + 65)), .ref (A (i + 114)), .ref (A (i + 123))]) := hO
  have hz1 := hz.1
  have hz2 := hz.2
  obtain ⟨⟨f2, h2, hf2⟩, hbk, hbv, hbx⟩ := id hB
  have hcm := hC.1
  have hz10 : cz ≤ 10 := hC.2.1.2.1
  refine lv_aload_n X.1 X.2.1 dX10_comer_0 rfl (lv_at hl 0 rfl) ?_
  refine lv_iload_n X.1 X.2.1 dX10_comer_1 rfl (lv_at hl 1 rfl) ?_
  refine x_ci (x_runV (k := 1) (As := [.int (iI (z))]) (rest := []) X hW (c_X10_isBook l E A n _ g i bk z hi hO hbk hz) (by omega) hO rfl gX10_comer_X10_isBook rfl rfl rfl (by decide +kernel) ⟨by decide, by decide⟩ rfl hl.1 rfl (Nat.le_of_ble_eq_true rfl) dX10_comer_2 ⟨Nat.zero_le _, Nat.zero_le _⟩) hW (fun r_2 g_2 H locs hp_2 hW => ?_)
  obtain ⟨hr_2, he_2⟩ := hp_2
  rw [he_2] at hW
  subst hr_2
  refine x_if_ne (tgt := 11) X ⟨by split <;> decide, by split <;> decide⟩ dX10_comer_5 (by decide) (fun b_5 => ?_) (fun b_5 => ?_)
  · have hs : 0 ≤ z ∧ z ≤ (bk : Int) - 1 := Decidable.byContradiction (fun h => by rw [if_neg h] at b_5; exact b_5 rfl)
    obtain ⟨bz0, wo0, we0, tot0, hbc0⟩ := hbx z.toNat (by omega)
    have hbo := hbc0.1
    refine lv_aload_n X.1 X.2.1 dX10_comer_11 rfl (lv_at hl 0 rfl) ?_
    refine x_get (C := RX10) (T := TX10) (N := 9) X hW (by omega) hO rfl lk_0 4 (by decide) lk_1 rfl dX10_comer_12 ?_
    refine lv_aload_n X.1 X.2.1 dX10_comer_15 rfl (lv_at hl 0 rfl) ?_
    refine x_get (C := RX10) (T := TX10) (N := 9) X hW (by omega) hO rfl lk_0 1 (by decide) lk_2 rfl dX10_comer_16 ?_
    refine lv_iload_n X.1 X.2.1 dX10_comer_19 rfl (lv_at hl 1 rfl) ?_
    refine x_aald X hW (by omega) h2 rfl (j := i + 162 + 3 * z.toNat) z.toNat (by omega) (by omega) (by decide) (hf2 z.toNat (by omega)) dX10_comer_20 ?_
    refine x_ci (x_runV (k := 1) (As := [.ref (A (i + 162 + 3 * z.toNat))]) (rest := []) X hW (c_X2_join l E A n _ g (i + 12) cz (bcl i co) br (i + 162 + 3 * z.toNat) _ (by omega) hC (by omega) hbo (by omega)) (by omega) hcm rfl gX10_comer_X2_join rfl rfl rfl (by decide +kernel) ⟨by decide, by decide⟩ rfl hl.1 rfl (Nat.le_of_ble_eq_true rfl) dX10_comer_21 ⟨Nat.zero_le _, Nat.zero_le _⟩) hW (fun r_21 g_21 H locs hp_21 hW => ?_)
    obtain ⟨hf8, hls⟩ := hp_21
    have hjr : r_21 = iI (if cz = 10 then -8 else (cz : Int)) := by
      by_cases h9 : cz = 10
      · rw [if_pos h9]; exact (hf8 h9).1
      · rw [if_neg h9]; exact (hls (by omega)).1
    subst hjr
    exact x_iret X hr hlk hW (⟨by unfold coR; rw [if_pos (show 0 ≤ z ∧ z < (bk : Int) by omega)], fun h => by
      by_cases h9 : cz = 10
      · unfold coR at h; rw [if_pos (by omega), if_pos h9] at h; omega
      · have h8 := (hls (by omega)).2.1; rwa [bcl_up] at h8, fun h => by
      by_cases h9 : cz = 10
      · exact (hf8 h9).2
      · unfold coR at h; rw [if_pos (by omega), if_neg h9] at h; omega, fun j hj => by
      by_cases h9 : cz = 10
      · rw [(hf8 h9).2]
      · exact (hls (by omega)).2.2 j (by omega)⟩) dX10_comer_24
  · have hs : ¬ (0 ≤ z ∧ z ≤ (bk : Int) - 1) := fun h => by rw [if_pos h] at b_5; omega
    refine x_bipush X (by decide) dX10_comer_8 ?_
    exact x_iret X hr hlk hW (⟨by unfold coR; rw [if_neg (by omega)], fun h => by unfold coR at h; rw [if_neg (by omega)] at h; omega, fun _ => rfl, fun _ _ => rfl⟩) dX10_comer_10

set_option maxHeartbeats 4000000 in
set_option maxRecDepth 100000 in
/-- dismiss -/
theorem c_X10_dismiss (l : Launch) (E : wE) (A : Nat → Nat) (n sz : Nat) (g : Nat → va_E) (i bk : Nat) (cz : Nat) (co br : Nat → Nat) (hi : i + 209 < n) (hO : g i = kO A i bk) (hC : ComV E A g (i + 12) cz (bcl i co) br) : Met l yX10_dismiss wsX10_dismiss ({ frames := 4, cells := 0, slots := 0, locals := 160 } : Room) (va_Pc [.ref (A (i))] (wPre E A n sz g)) (va_Qi (fun r g' => r = iI (cz : Int) ∧ ComV E A g' (i + 12) 0 (bcl i co) br ∧ ∀ j, (j < i + 12 ∨ i + 53 < j) → g' j = g j) (wAt E A n) (wF A n sz)) 0 0 (wF A n sz) := by
  refine x_met (cc := cX10_dismiss) (maxL := 1) (ret := (some .int)) [.ref (A (i))] (by decide) rfl (Nat.le_of_ble_eq_true rfl) ?_
  intro p_ e_ s_ m_ below meth c_ ls X hr hlk hnm hsz hW hl
  have hl : lv_has ls 1 [(0, .ref (A (i)))] := hl
  have lk_0 : ∀ w ∈ wsX100, w ∈ wsX10_dismiss := by decide +kernel
  have lk_1 : Cond.fieldLink RX10 35 (TX10 4).1 (TX10 4).2.1 (TX10 4).2.2.1 ∈ wsX10_dismiss := by decide +kernel
  have hO : g i = .inr (10, [.ref (A (i + 1)), .ref (A (i + 2)), .int (iI ((bk : Int))), .ref (A (i + 3)), .ref (A (i + 12)), .ref (A (i + 54)), .ref (A (i + 65)), .ref (A (i + 114)), .ref (A (i + 123))]) := hO
  have hcm := hC.1
  have hz10 : cz ≤ 10 := hC.2.1.2.1
  refine lv_aload_n X.1 X.2.1 dX10_dismiss_0 rfl (lv_at hl 0 rfl) ?_
  refine x_get (C := RX10) (T := TX10) (N := 9) X hW (by omega) hO rfl lk_0 4 (by decide) lk_1 rfl dX10_dismiss_1 ?_
  refine x_ci (x_runV (k := 0) (As := []) (rest := []) X hW (c_X2_clear l E A n _ g (i + 12) cz (bcl i co) br (by omega) hC) (by omega) hcm rfl gX10_dismiss_X2_clear rfl rfl rfl (by decide +kernel) ⟨by decide, by decide⟩ rfl hl.1 rfl (Nat.le_of_ble_eq_true rfl) dX10_dismiss_4 ⟨Nat.zero_le _, Nat.zero_le _⟩) hW (fun r_4 g_4 H locs hp_4 hW => ?_)
  obtain ⟨hr9, hC2, hf9⟩ := hp_4
  subst hr9
  exact x_iret X hr hlk hW (⟨rfl, hC2, fun j hj => hf9 j (by omega)⟩) dX10_dismiss_7

set_option maxHeartbeats 4000000 in
set_option maxRecDepth 100000 in
/-- tell -/
theorem c_X10_tell (l : Launch) (E : wE) (A : Nat → Nat) (n sz : Nat) (g : Nat → va_E) (i bk : Nat) (cz : Nat) (co br : Nat → Nat) (z b : Int) (hi : i + 209 < n) (hO : g i = kO A i bk) (hC : ComV E A g (i + 12) cz (bcl i co) br) (hz : I32 z) (hb : I32 b) : Met l yX10_tell wsX10_tell ({ frames := 4, cells := 0, slots := 0, locals := 160 } : Room) (va_Pc [.ref (A (i)), .int (iI (z)), .int (iI (b))] (wPre E A n sz g)) (va_Qi (fun r g' => r = iI (if (0 ≤ z ∧ z < (cz : Int)) ∧ 0 ≤ b ∧ b ≤ 1001 then 1 else 0) ∧ ((0 ≤ z ∧ z < (cz : Int)) ∧ 0 ≤ b ∧ b ≤ 1001 → ComV E A g' (i + 12) cz (bcl i co) (va_up br z.toNat b.toNat)) ∧ (¬ ((0 ≤ z ∧ z < (cz : Int)) ∧ 0 ≤ b ∧ b ≤ 1001) → g' = g) ∧ ∀ j, (j < i + 12 ∨ i + 53 < j) → g' j = g j) (wAt E A n) (wF A n sz)) 0 0 (wF A n sz) := by
  refine x_met (cc := cX10_tell) (maxL := 3) (ret := (some .boolean)) [.ref (A (i)), .int (iI (z)), .int (iI (b))] (by decide) rfl (Nat.le_of_ble_eq_true rfl) ?_
  intro p_ e_ s_ m_ below meth c_ ls X hr hlk hnm hsz hW hl
  have hl : lv_has ls 3 [(0, .ref (A (i))), (1, .int (iI (z))), (2, .int (iI (b)))] := hl
  have lk_0 : ∀ w ∈ wsX100, w ∈ wsX10_tell := by decide +kernel
  have lk_1 : Cond.fieldLink RX10 35 (TX10 4).1 (TX10 4).2.1 (TX10 4).2.2.1 ∈ wsX10_tell := by decide +kernel
  have lk_2 : Cond.constantLong RX10 112 (1001) ∈ wsX10_tell := by decide +kernel
  have hO : g i = .inr (10, [.ref (A (i + 1)), .ref (A (i + 2)), .int (iI ((bk : Int))), .ref (A (i + 3)), .ref (A (i + 12)), .ref (A (i + 54)), .ref (A (i + 65)), .ref (A (i + 114)), .ref (A (i + 123))]) := hO
  have hz1 := hz.1
  have hz2 := hz.2
  have hb1 := hb.1
  have hb2 := hb.2
  have hcm := hC.1
  have hz10 : cz ≤ 10 := hC.2.1.2.1
  refine lv_iload_n X.1 X.2.1 dX10_tell_0 rfl (lv_at hl 1 rfl) ?_
  refine x_i2l X hz dX10_tell_1 ?_
  refine x_lconst X 0 (by decide) dX10_tell_2 ?_
  refine lv_aload_n X.1 X.2.1 dX10_tell_3 rfl (lv_at hl 0 rfl) ?_
  refine x_get (C := RX10) (T := TX10) (N := 9) X hW (by omega) hO rfl lk_0 4 (by decide) lk_1 rfl dX10_tell_4 ?_
  refine x_ci (x_runV (k := 0) (As := []) (rest := [.long (lI (0)), .long (lI (z))]) X hW (c_X2_size l E A n _ g (i + 12) cz (bcl i co) br (by omega) hC) (by omega) hcm rfl gX10_tell_X2_size rfl rfl rfl (by decide +kernel) ⟨by decide, by decide⟩ rfl hl.1 rfl (Nat.le_of_ble_eq_true rfl) dX10_tell_7 ⟨Nat.zero_le _, Nat.zero_le _⟩) hW (fun r_7 g_7 H locs hp_7 hW => ?_)
  obtain ⟨hr_7, he_7⟩ := hp_7
  rw [he_7] at hW
  subst hr_7
  refine x_iconst X dX10_tell_10 ?_
  refine x_isub X dX10_tell_11 ?_
  refine x_i2l X ⟨by omega, by omega⟩ dX10_tell_12 ?_
  refine x_ci (x_runS (k := 3) (As := [.long (lI (z)), .long (lI (0)), .long (lI (((cz : Int)) - 1))]) (rest := []) X hW (c_X10_isWithin l E A n _ g (z) (0) ((cz : Int) - 1) ⟨by omega, by omega⟩ ⟨by omega, by omega⟩ ⟨by omega, by omega⟩) gX10_tell_X10_isWithin rfl rfl rfl (by decide +kernel) ⟨by decide, by decide⟩ rfl hl.1 rfl (Nat.le_of_ble_eq_true rfl) dX10_tell_13 ⟨Nat.zero_le _, Nat.zero_le _⟩) hW (fun r_13 g_13 H locs hp_13 hW => ?_)
  obtain ⟨hr_13, he_13⟩ := hp_13
  rw [he_13] at hW
  subst hr_13
  refine x_if_eq (tgt := 31) X ⟨by split <;> decide, by split <;> decide⟩ dX10_tell_16 (by decide) (fun b_16 => ?_) (fun b_16 => ?_)
  · have hs : ¬ (0 ≤ z ∧ z ≤ (cz : Int) - 1) := fun h => by rw [if_pos h] at b_16; omega
    refine x_iconst X dX10_tell_31 ?_
    exact x_zret X hr hlk (by decide) hW (⟨by rw [if_neg (by omega)], fun h => absurd h (by omega), fun _ => rfl, fun _ _ => rfl⟩) dX10_tell_32
  · have hs : 0 ≤ z ∧ z ≤ (cz : Int) - 1 := Decidable.byContradiction (fun h => by rw [if_neg h] at b_16; exact b_16 rfl)
    refine lv_iload_n X.1 X.2.1 dX10_tell_19 rfl (lv_at hl 2 rfl) ?_
    refine x_i2l X hb dX10_tell_20 ?_
    refine x_lconst X 0 (by decide) dX10_tell_21 ?_
    refine x_ldc2 X (1001) (by decide) lk_2 dX10_tell_22 ?_
    refine x_ci (x_runS (k := 3) (As := [.long (lI (b)), .long (lI (0)), .long (lI (1001))]) (rest := []) X hW (c_X10_isWithin l E A n _ g (b) (0) (1001) ⟨by omega, by omega⟩ ⟨by omega, by omega⟩ ⟨by omega, by omega⟩) gX10_tell_X10_isWithin rfl rfl rfl (by decide +kernel) ⟨by decide, by decide⟩ rfl hl.1 rfl (Nat.le_of_ble_eq_true rfl) dX10_tell_25 ⟨Nat.zero_le _, Nat.zero_le _⟩) hW (fun r_25 g_25 H locs hp_25 hW => ?_)
    obtain ⟨hr_25, he_25⟩ := hp_25
    rw [he_25] at hW
    subst hr_25
    refine x_if_ne (tgt := 33) X ⟨by split <;> decide, by split <;> decide⟩ dX10_tell_28 (by decide) (fun b_28 => ?_) (fun b_28 => ?_)
    · have hs2 : 0 ≤ b ∧ b ≤ 1001 := Decidable.byContradiction (fun h => by rw [if_neg h] at b_28; exact b_28 rfl)
      refine lv_aload_n X.1 X.2.1 dX10_tell_33 rfl (lv_at hl 0 rfl) ?_
      refine x_get (C := RX10) (T := TX10) (N := 9) X hW (by omega) hO rfl lk_0 4 (by decide) lk_1 rfl dX10_tell_34 ?_
      refine lv_iload_n X.1 X.2.1 dX10_tell_37 rfl (lv_at hl 1 rfl) ?_
      refine x_seti (((z.toNat : Nat) : Int)) (by omega) ?_
      refine lv_iload_n X.1 X.2.1 dX10_tell_38 rfl (lv_at hl 2 rfl) ?_
      refine x_seti (((b.toNat : Nat) : Int)) (by omega) ?_
      refine x_cv (x_runV (k := 2) (As := [.int (iI (((z.toNat : Nat) : Int))), .int (iI (((b.toNat : Nat) : Int)))]) (rest := []) X hW (c_X2_setBar l E A n _ g (i + 12) cz (bcl i co) br z.toNat b.toNat (by omega) hC (by omega) (by omega)) (by omega) hcm rfl gX10_tell_X2_setBar rfl rfl rfl (by decide +kernel) ⟨by decide, by decide⟩ rfl hl.1 rfl (Nat.le_of_ble_eq_true rfl) dX10_tell_39 ⟨Nat.zero_le _, Nat.zero_le _⟩) hW (fun g_39 H locs hp_39 hW => ?_)
      obtain ⟨hC2, hf9⟩ := hp_39
      refine x_iconst X dX10_tell_42 ?_
      exact x_zret X hr hlk (by decide) hW (⟨by rw [if_pos (by omega)], fun _ => hC2, fun h => absurd (show (0 ≤ z ∧ z < (cz : Int)) ∧ 0 ≤ b ∧ b ≤ 1001 by omega) h, fun j hj => hf9 j (by omega)⟩) dX10_tell_43
    · have hs2 : ¬ (0 ≤ b ∧ b ≤ 1001) := fun h => by rw [if_pos h] at b_28; omega
      refine x_iconst X dX10_tell_31 ?_
      exact x_zret X hr hlk (by decide) hW (⟨by rw [if_neg (by omega)], fun h => absurd h (by omega), fun _ => rfl, fun _ _ => rfl⟩) dX10_tell_32

set_option maxHeartbeats 4000000 in
set_option maxRecDepth 100000 in
/-- told -/
theorem c_X10_told (l : Launch) (E : wE) (A : Nat → Nat) (n sz : Nat) (g : Nat → va_E) (i bk : Nat) (L : Nat → List (Nat × Nat)) (cz : Nat) (co br : Nat → Nat) (hi : i + 209 < n) (hO : g i = kO A i bk) (hB : KB E A g i bk L) (hC : ComV E A g (i + 12) cz (bcl i co) br) (hcb : ∀ k, k < cz → co k < bk) (hbr : ∀ k, k < cz → br k ≤ 1001) (hRX : ResX E A g (i + 3)) : Met l yX10_told wsX10_told ({ frames := 8, cells := 0, slots := 0, locals := 400 } : Room) (va_Pc [.ref (A (i))] (wPre E A n sz g)) (va_Qv (fun g' => ResV E A g' (i + 3) (rdT ((foM (LkM L co) br cz cz : Nat) : Int) (prT (LkM L co) cz)) (rdB ((foM (LkM L co) br cz cz : Nat) : Int) (prT (LkM L co) cz)) ∧ ComV E A g' (i + 12) cz (bcl i co) br ∧ ∀ j, (j < i + 3 ∨ i + 53 < j) → g' j = g j) (wAt E A n) (wF A n sz)) 0 0 (wF A n sz) := by
  refine x_met (cc := cX10_told) (maxL := 1) (ret := none) [.ref (A (i))] (by decide) rfl (Nat.le_of_ble_eq_true rfl) ?_
  intro p_ e_ s_ m_ below meth c_ ls X hr hlk hnm hsz hW hl
  have hl : lv_has ls 1 [(0, .ref (A (i)))] := hl
  have lk_0 : ∀ w ∈ wsX100, w ∈ wsX10_told := by decide +kernel
  have lk_1 : Cond.fieldLink RX10 35 (TX10 4).1 (TX10 4).2.1 (TX10 4).2.2.1 ∈ wsX10_told := by decide +kernel
  have lk_2 : Cond.fieldLink RX10 28 (TX10 3).1 (TX10 3).2.1 (TX10 3).2.2.1 ∈ wsX10_told := by decide +kernel
  have hO : g i = .inr (10, [.ref (A (i + 1)), .ref (A (i + 2)), .int (iI ((bk : Int))), .ref (A (i + 3)), .ref (A (i + 12)), .ref (A (i + 54)), .ref (A (i + 65)), .ref (A (i + 114)), .ref (A (i + 123))]) := hO
  have hcm := hC.1
  have hz10 : cz ≤ 10 := hC.2.1.2.1
  obtain ⟨⟨rz, hr0⟩, _⟩ := id hRX
  refine lv_aload_n X.1 X.2.1 dX10_told_0 rfl (lv_at hl 0 rfl) ?_
  refine x_get (C := RX10) (T := TX10) (N := 9) X hW (by omega) hO rfl lk_0 4 (by decide) lk_1 rfl dX10_told_1 ?_
  refine lv_aload_n X.1 X.2.1 dX10_told_4 rfl (lv_at hl 0 rfl) ?_
  refine x_get (C := RX10) (T := TX10) (N := 9) X hW (by omega) hO rfl lk_0 3 (by decide) lk_2 rfl dX10_told_5 ?_
  refine x_cv (x_runV (k := 1) (As := [.ref (A (i + 3))]) (rest := []) X hW (c_X2_followTold l E A n _ g (i + 12) cz (bcl i co) br (LkM L co) (i + 3) (by omega) hC (hB.bks hi hcb) (fun k _ => Or.inl (by have := bcl_far (i := i) co k; omega)) hbr (fun k hk => (hB.2.2.1 _ (hcb k hk)).2) (by omega) hRX (by omega) (fun k _ => Or.inl (by have := bcl_far (i := i) co k; omega))) (by omega) hcm rfl gX10_told_X2_followTold rfl rfl rfl (by decide +kernel) ⟨by decide, by decide⟩ rfl hl.1 rfl (Nat.le_of_ble_eq_true rfl) dX10_told_8 ⟨Nat.zero_le _, Nat.zero_le _⟩) hW (fun g_8 H locs hp_8 hW => ?_)
  obtain ⟨hR2, hC2, hf9⟩ := hp_8
  exact x_vret X hr hlk hW (⟨hR2, hC2, fun j hj => hf9 j (by omega)⟩) dX10_told_11

set_option maxHeartbeats 4000000 in
set_option maxRecDepth 100000 in
/-- best -/
theorem c_X10_best (l : Launch) (E : wE) (A : Nat → Nat) (n sz : Nat) (g : Nat → va_E) (i bk : Nat) (L : Nat → List (Nat × Nat)) (cz : Nat) (co br : Nat → Nat) (hi : i + 209 < n) (hO : g i = kO A i bk) (hB : KB E A g i bk L) (hC : ComV E A g (i + 12) cz (bcl i co) br) (hcb : ∀ k, k < cz → co k < bk) (hRX : ResX E A g (i + 3)) : Met l yX10_best wsX10_best ({ frames := 8, cells := 0, slots := 0, locals := 400 } : Room) (va_Pc [.ref (A (i))] (wPre E A n sz g)) (va_Qv (fun g' => ResV E A g' (i + 3) (rdT ((chN (LkM L co) cz 1 cz 1 : Nat) : Int) (prT (LkM L co) cz)) (rdB ((chN (LkM L co) cz 1 cz 1 : Nat) : Int) (prT (LkM L co) cz)) ∧ ComV E A g' (i + 12) cz (bcl i co) br ∧ ∀ j, (j < i + 3 ∨ i + 53 < j) → g' j = g j) (wAt E A n) (wF A n sz)) 0 0 (wF A n sz) := by
  refine x_met (cc := cX10_best) (maxL := 1) (ret := none) [.ref (A (i))] (by decide) rfl (Nat.le_of_ble_eq_true rfl) ?_
  intro p_ e_ s_ m_ below meth c_ ls X hr hlk hnm hsz hW hl
  have hl : lv_has ls 1 [(0, .ref (A (i)))] := hl
  have lk_0 : ∀ w ∈ wsX100, w ∈ wsX10_best := by decide +kernel
  have lk_1 : Cond.fieldLink RX10 35 (TX10 4).1 (TX10 4).2.1 (TX10 4).2.2.1 ∈ wsX10_best := by decide +kernel
  have lk_2 : Cond.fieldLink RX10 28 (TX10 3).1 (TX10 3).2.1 (TX10 3).2.2.1 ∈ wsX10_best := by decide +kernel
  have hO : g i = .inr (10, [.ref (A (i + 1)), .ref (A (i + 2)), .int (iI ((bk : Int))), .ref (A (i + 3)), .ref (A (i + 12)), .ref (A (i + 54)), .ref (A (i + 65)), .ref (A (i + 114)), .ref (A (i + 123))]) := hO
  have hcm := hC.1
  have hz10 : cz ≤ 10 := hC.2.1.2.1
  obtain ⟨⟨rz, hr0⟩, _⟩ := id hRX
  refine lv_aload_n X.1 X.2.1 dX10_best_0 rfl (lv_at hl 0 rfl) ?_
  refine x_get (C := RX10) (T := TX10) (N := 9) X hW (by omega) hO rfl lk_0 4 (by decide) lk_1 rfl dX10_best_1 ?_
  refine x_iconst X dX10_best_4 ?_
  refine x_seti (((1 : Nat) : Int)) rfl ?_
  refine lv_aload_n X.1 X.2.1 dX10_best_5 rfl (lv_at hl 0 rfl) ?_
  refine x_get (C := RX10) (T := TX10) (N := 9) X hW (by omega) hO rfl lk_0 3 (by decide) lk_2 rfl dX10_best_6 ?_
  refine x_cv (x_runV (k := 2) (As := [.int (iI (((1 : Nat) : Int))), .ref (A (i + 3))]) (rest := []) X hW (c_X2_chooseUpTo l E A n _ g (i + 12) cz (bcl i co) br (LkM L co) (i + 3) 1 (by omega) hC (hB.bks hi hcb) (fun k _ => Or.inl (by have := bcl_far (i := i) co k; omega)) (fun k hk => (hB.2.2.1 _ (hcb k hk)).2) (by omega) hRX (by omega) (fun k _ => Or.inl (by have := bcl_far (i := i) co k; omega)) (by omega)) (by omega) hcm rfl gX10_best_X2_chooseUpTo rfl rfl rfl (by decide +kernel) ⟨by decide, by decide⟩ rfl hl.1 rfl (Nat.le_of_ble_eq_true rfl) dX10_best_9 ⟨Nat.zero_le _, Nat.zero_le _⟩) hW (fun g_9 H locs hp_9 hW => ?_)
  obtain ⟨hR2, hC2, hf9⟩ := hp_9
  exact x_vret X hr hlk hW (⟨hR2, hC2, fun j hj => hf9 j (by omega)⟩) dX10_best_12

set_option maxHeartbeats 4000000 in
set_option maxRecDepth 100000 in
/-- bar -/
theorem c_X10_bar (l : Launch) (E : wE) (A : Nat → Nat) (n sz : Nat) (g : Nat → va_E) (i bk : Nat) (L : Nat → List (Nat × Nat)) (cz : Nat) (co br : Nat → Nat) (z : Int) (hi : i + 209 < n) (hO : g i = kO A i bk) (hB : KB E A g i bk L) (hC : ComV E A g (i + 12) cz (bcl i co) br) (hcb : ∀ k, k < cz → co k < bk) (hz : I32 z) : Met l yX10_bar wsX10_bar ({ frames := 8, cells := 0, slots := 0, locals := 400 } : Room) (va_Pc [.ref (A (i)), .int (iI (z))] (wPre E A n sz g)) (va_Qi (fun r g' => (¬ (0 ≤ z ∧ z < (cz : Int)) → r = iI (-1) ∧ g' = g) ∧ (0 ≤ z ∧ z < (cz : Int) → ∃ b : Nat, r = iI (b : Int) ∧ LB (L (co z.toNat)) 0 (foA (LkM L co) cz (cz - 1 - z.toNat)) (chN (LkM L co) cz 1 (cz - 1 - z.toNat) 1) b) ∧ ComV E A g' (i + 12) cz (bcl i co) br ∧ ∀ j, (j < i + 12 ∨ i + 53 < j) → g' j = g j) (wAt E A n) (wF A n sz)) 0 0 (wF A n sz) := by
  refine x_met (cc := cX10_bar) (maxL := 2) (ret := (some .int)) [.ref (A (i)), .int (iI (z))] (by decide) rfl (Nat.le_of_ble_eq_true rfl) ?_
  intro p_ e_ s_ m_ below meth c_ ls X hr hlk hnm hsz hW hl
  have hl : lv_has ls 2 [(0, .ref (A (i))), (1, .int (iI (z)))] := hl
  have lk_0 : ∀ w ∈ wsX100, w ∈ wsX10_bar := by decide +kernel
  have lk_1 : Cond.fieldLink RX10 35 (TX10 4).1 (TX10 4).2.1 (TX10 4).2.2.1 ∈ wsX10_bar := by decide +kernel
  have hO : g i = .inr (10, [.ref (A (i + 1)), .ref (A (i + 2)), .int (iI ((bk : Int))), .ref (A (i + 3)), .ref (A (i + 12)), .ref (A (i + 54)), .ref (A (i + 65)), .ref (A (i + 114)), .ref (A (i + 123))]) := hO
  have hz1 := hz.1
  have hz2 := hz.2
  have hcm := hC.1
  have hz10 : cz ≤ 10 := hC.2.1.2.1
  refine lv_iload_n X.1 X.2.1 dX10_bar_0 rfl (lv_at hl 1 rfl) ?_
  refine x_i2l X hz dX10_bar_1 ?_
  refine x_lconst X 0 (by decide) dX10_bar_2 ?_
  refine lv_aload_n X.1 X.2.1 dX10_bar_3 rfl (lv_at hl 0 rfl) ?_
  refine x_get (C := RX10) (T := TX10) (N := 9) X hW (by omega) hO rfl lk_0 4 (by decide) lk_1 rfl dX10_bar_4 ?_
  refine x_ci (x_runV (k := 0) (As := []) (rest := [.long (lI (0)), .long (lI (z))]) X hW (c_X2_size l E A n _ g (i + 12) cz (bcl i co) br (by omega) hC) (by omega) hcm rfl gX10_bar_X2_size rfl rfl rfl (by decide +kernel) ⟨by decide, by decide⟩ rfl hl.1 rfl (Nat.le_of_ble_eq_true rfl) dX10_bar_7 ⟨Nat.zero_le _, Nat.zero_le _⟩) hW (fun r_7 g_7 H locs hp_7 hW => ?_)
  obtain ⟨hr_7, he_7⟩ := hp_7
  rw [he_7] at hW
  subst hr_7
  refine x_iconst X dX10_bar_10 ?_
  refine x_isub X dX10_bar_11 ?_
  refine x_i2l X ⟨by omega, by omega⟩ dX10_bar_12 ?_
  refine x_ci (x_runS (k := 3) (As := [.long (lI (z)), .long (lI (0)), .long (lI (((cz : Int)) - 1))]) (rest := []) X hW (c_X10_isWithin l E A n _ g (z) (0) ((cz : Int) - 1) ⟨by omega, by omega⟩ ⟨by omega, by omega⟩ ⟨by omega, by omega⟩) gX10_bar_X10_isWithin rfl rfl rfl (by decide +kernel) ⟨by decide, by decide⟩ rfl hl.1 rfl (Nat.le_of_ble_eq_true rfl) dX10_bar_13 ⟨Nat.zero_le _, Nat.zero_le _⟩) hW (fun r_13 g_13 H locs hp_13 hW => ?_)
  obtain ⟨hr_13, he_13⟩ := hp_13
  rw [he_13] at hW
  subst hr_13
  refine x_if_ne (tgt := 21) X ⟨by split <;> decide, by split <;> decide⟩ dX10_bar_16 (by decide) (fun b_16 => ?_) (fun b_16 => ?_)
  · have hs : 0 ≤ z ∧ z ≤ (cz : Int) - 1 := Decidable.byContradiction (fun h => by rw [if_neg h] at b_16; exact b_16 rfl)
    refine lv_aload_n X.1 X.2.1 dX10_bar_21 rfl (lv_at hl 0 rfl) ?_
    refine x_get (C := RX10) (T := TX10) (N := 9) X hW (by omega) hO rfl lk_0 4 (by decide) lk_1 rfl dX10_bar_22 ?_
    refine lv_iload_n X.1 X.2.1 dX10_bar_25 rfl (lv_at hl 1 rfl) ?_
    refine x_seti (((z.toNat : Nat) : Int)) (by omega) ?_
    refine x_ci (x_runV (k := 1) (As := [.int (iI (((z.toNat : Nat) : Int)))]) (rest := []) X hW (c_X2_bestBar l E A n _ g (i + 12) cz (bcl i co) br (LkM L co) z.toNat (by omega) hC (hB.bks hi hcb) (fun k _ => Or.inl (by have := bcl_far (i := i) co k; omega)) (by omega)) (by omega) hcm rfl gX10_bar_X2_bestBar rfl rfl rfl (by decide +kernel) ⟨by decide, by decide⟩ rfl hl.1 rfl (Nat.le_of_ble_eq_true rfl) dX10_bar_26 ⟨Nat.zero_le _, Nat.zero_le _⟩) hW (fun r_26 g_26 H locs hp_26 hW => ?_)
    obtain ⟨⟨b, hr9, hLB⟩, hC2, hf9⟩ := hp_26
    subst hr9
    exact x_iret X hr hlk hW (⟨fun h => absurd (show 0 ≤ z ∧ z < (cz : Int) by omega) h, fun _ => ⟨b, rfl, hLB⟩, hC2, fun j hj => hf9 j (by omega)⟩) dX10_bar_29
  · have hs : ¬ (0 ≤ z ∧ z ≤ (cz : Int) - 1) := fun h => by rw [if_pos h] at b_16; omega
    refine x_iconst X dX10_bar_19 ?_
    exact x_iret X hr hlk hW (⟨fun _ => ⟨rfl, rfl⟩, fun h => absurd h (by omega), hC, fun _ _ => rfl⟩) dX10_bar_20

set_option maxHeartbeats 4000000 in
set_option maxRecDepth 100000 in
/-- few -/
theorem c_X10_few (l : Launch) (E : wE) (A : Nat → Nat) (n sz : Nat) (g : Nat → va_E) (i bk : Nat) (L : Nat → List (Nat × Nat)) (cz : Nat) (co br : Nat → Nat) (z : Int) (hi : i + 209 < n) (hO : g i = kO A i bk) (hB : KB E A g i bk L) (hC : ComV E A g (i + 12) cz (bcl i co) br) (hcb : ∀ k, k < cz → co k < bk) (hRX : ResX E A g (i + 3)) (hz : I32 z) : Met l yX10_few wsX10_few ({ frames := 8, cells := 0, slots := 0, locals := 400 } : Room) (va_Pc [.ref (A (i)), .int (iI (z))] (wPre E A n sz g)) (va_Qi (fun r g' => r = iI (if 0 ≤ z ∧ z ≤ 10 then 1 else 0) ∧ (0 ≤ z ∧ z ≤ 10 → ResV E A g' (i + 3) (rdT ((chN (LkM L co) cz z.toNat cz z.toNat : Nat) : Int) (prT (LkM L co) cz)) (rdB ((chN (LkM L co) cz z.toNat cz z.toNat : Nat) : Int) (prT (LkM L co) cz)) ∧ ComV E A g' (i + 12) cz (bcl i co) br) ∧ (¬ (0 ≤ z ∧ z ≤ 10) → g' = g) ∧ ∀ j, (j < i + 3 ∨ i + 53 < j) → g' j = g j) (wAt E A n) (wF A n sz)) 0 0 (wF A n sz) := by
  refine x_met (cc := cX10_few) (maxL := 2) (ret := (some .boolean)) [.ref (A (i)), .int (iI (z))] (by decide) rfl (Nat.le_of_ble_eq_true rfl) ?_
  intro p_ e_ s_ m_ below meth c_ ls X hr hlk hnm hsz hW hl
  have hl : lv_has ls 2 [(0, .ref (A (i))), (1, .int (iI (z)))] := hl
  have lk_0 : Cond.constantLong RX10 129 (10) ∈ wsX10_few := by decide +kernel
  have lk_1 : ∀ w ∈ wsX100, w ∈ wsX10_few := by decide +kernel
  have lk_2 : Cond.fieldLink RX10 35 (TX10 4).1 (TX10 4).2.1 (TX10 4).2.2.1 ∈ wsX10_few := by decide +kernel
  have lk_3 : Cond.fieldLink RX10 28 (TX10 3).1 (TX10 3).2.1 (TX10 3).2.2.1 ∈ wsX10_few := by decide +kernel
  have hO : g i = .inr (10, [.ref (A (i + 1)), .ref (A (i + 2)), .int (iI ((bk : Int))), .ref (A (i + 3)), .ref (A (i + 12)), .ref (A (i + 54)), .ref (A (i + 65)), .ref (A (i + 114)), .ref (A (i + 123))]) := hO
  have hz1 := hz.1
  have hz2 := hz.2
  have hcm := hC.1
  have hz10 : cz ≤ 10 := hC.2.1.2.1
  obtain ⟨⟨rz, hr0⟩, _⟩ := id hRX
  refine lv_iload_n X.1 X.2.1 dX10_few_0 rfl (lv_at hl 1 rfl) ?_
  refine x_i2l X hz dX10_few_1 ?_
  refine x_lconst X 0 (by decide) dX10_few_2 ?_
  refine x_ldc2 X (10) (by decide) lk_0 dX10_few_3 ?_
  refine x_ci (x_runS (k := 3) (As := [.long (lI (z)), .long (lI (0)), .long (lI (10))]) (rest := []) X hW (c_X10_isWithin l E A n _ g (z) (0) (10) ⟨by omega, by omega⟩ ⟨by omega, by omega⟩ ⟨by omega, by omega⟩) gX10_few_X10_isWithin rfl rfl rfl (by decide +kernel) ⟨by decide, by decide⟩ rfl hl.1 rfl (Nat.le_of_ble_eq_true rfl) dX10_few_6 ⟨Nat.zero_le _, Nat.zero_le _⟩) hW (fun r_6 g_6 H locs hp_6 hW => ?_)
  obtain ⟨hr_6, he_6⟩ := hp_6
  rw [he_6] at hW
  subst hr_6
  refine x_if_ne (tgt := 14) X ⟨by split <;> decide, by split <;> decide⟩ dX10_few_9 (by decide) (fun b_9 => ?_) (fun b_9 => ?_)
  · have hs : 0 ≤ z ∧ z ≤ 10 := Decidable.byContradiction (fun h => by rw [if_neg h] at b_9; exact b_9 rfl)
    refine lv_aload_n X.1 X.2.1 dX10_few_14 rfl (lv_at hl 0 rfl) ?_
    refine x_get (C := RX10) (T := TX10) (N := 9) X hW (by omega) hO rfl lk_1 4 (by decide) lk_2 rfl dX10_few_15 ?_
    refine lv_iload_n X.1 X.2.1 dX10_few_18 rfl (lv_at hl 1 rfl) ?_
    refine x_seti (((z.toNat : Nat) : Int)) (by omega) ?_
    refine lv_aload_n X.1 X.2.1 dX10_few_19 rfl (lv_at hl 0 rfl) ?_
    refine x_get (C := RX10) (T := TX10) (N := 9) X hW (by omega) hO rfl lk_1 3 (by decide) lk_3 rfl dX10_few_20 ?_
    refine x_cv (x_runV (k := 2) (As := [.int (iI (((z.toNat : Nat) : Int))), .ref (A (i + 3))]) (rest := []) X hW (c_X2_chooseUpTo l E A n _ g (i + 12) cz (bcl i co) br (LkM L co) (i + 3) z.toNat (by omega) hC (hB.bks hi hcb) (fun k _ => Or.inl (by have := bcl_far (i := i) co k; omega)) (fun k hk => (hB.2.2.1 _ (hcb k hk)).2) (by omega) hRX (by omega) (fun k _ => Or.inl (by have := bcl_far (i := i) co k; omega)) (by omega)) (by omega) hcm rfl gX10_few_X2_chooseUpTo rfl rfl rfl (by decide +kernel) ⟨by decide, by decide⟩ rfl hl.1 rfl (Nat.le_of_ble_eq_true rfl) dX10_few_23 ⟨Nat.zero_le _, Nat.zero_le _⟩) hW (fun g_23 H locs hp_23 hW => ?_)
    obtain ⟨hR2, hC2, hf9⟩ := hp_23
    refine x_iconst X dX10_few_26 ?_
    exact x_zret X hr hlk (by decide) hW (⟨by rw [if_pos hs], fun _ => ⟨hR2, hC2⟩, fun h => absurd hs h, fun j hj => hf9 j (by omega)⟩) dX10_few_27
  · have hs : ¬ (0 ≤ z ∧ z ≤ 10) := fun h => by rw [if_pos h] at b_9; omega
    refine x_iconst X dX10_few_12 ?_
    exact x_zret X hr hlk (by decide) hW (⟨by rw [if_neg hs], fun h => absurd h hs, fun _ => rfl, fun _ _ => rfl⟩) dX10_few_13

set_option maxHeartbeats 4000000 in
set_option maxRecDepth 100000 in
/-- foresight -/
theorem c_X10_foresight (l : Launch) (E : wE) (A : Nat → Nat) (n sz : Nat) (g : Nat → va_E) (i bk : Nat) (L : Nat → List (Nat × Nat)) (cz : Nat) (co br : Nat → Nat) (hi : i + 209 < n) (hO : g i = kO A i bk) (hB : KB E A g i bk L) (hC : ComV E A g (i + 12) cz (bcl i co) br) (hcb : ∀ k, k < cz → co k < bk) (hRX : ResX E A g (i + 3)) : Met l yX10_foresight wsX10_foresight ({ frames := 8, cells := 0, slots := 0, locals := 400 } : Room) (va_Pc [.ref (A (i))] (wPre E A n sz g)) (va_Qv (fun g' => ResV E A g' (i + 3) (rdT ((foS (LkM L co) cz 1000 : Nat) : Int) (prT (LkM L co) cz)) (rdB ((foS (LkM L co) cz 1000 : Nat) : Int) (prT (LkM L co) cz)) ∧ ComV E A g' (i + 12) cz (bcl i co) br ∧ ∀ j, (j < i + 3 ∨ i + 53 < j) → g' j = g j) (wAt E A n) (wF A n sz)) 0 0 (wF A n sz) := by
  refine x_met (cc := cX10_foresight) (maxL := 1) (ret := none) [.ref (A (i))] (by decide) rfl (Nat.le_of_ble_eq_true rfl) ?_
  intro p_ e_ s_ m_ below meth c_ ls X hr hlk hnm hsz hW hl
  have hl : lv_has ls 1 [(0, .ref (A (i)))] := hl
  have lk_0 : ∀ w ∈ wsX100, w ∈ wsX10_foresight := by decide +kernel
  have lk_1 : Cond.fieldLink RX10 35 (TX10 4).1 (TX10 4).2.1 (TX10 4).2.2.1 ∈ wsX10_foresight := by decide +kernel
  have lk_2 : Cond.fieldLink RX10 28 (TX10 3).1 (TX10 3).2.1 (TX10 3).2.2.1 ∈ wsX10_foresight := by decide +kernel
  have hO : g i = .inr (10, [.ref (A (i + 1)), .ref (A (i + 2)), .int (iI ((bk : Int))), .ref (A (i + 3)), .ref (A (i + 12)), .ref (A (i + 54)), .ref (A (i + 65)), .ref (A (i + 114)), .ref (A (i + 123))]) := hO
  have hcm := hC.1
  have hz10 : cz ≤ 10 := hC.2.1.2.1
  obtain ⟨⟨rz, hr0⟩, _⟩ := id hRX
  refine lv_aload_n X.1 X.2.1 dX10_foresight_0 rfl (lv_at hl 0 rfl) ?_
  refine x_get (C := RX10) (T := TX10) (N := 9) X hW (by omega) hO rfl lk_0 4 (by decide) lk_1 rfl dX10_foresight_1 ?_
  refine lv_aload_n X.1 X.2.1 dX10_foresight_4 rfl (lv_at hl 0 rfl) ?_
  refine x_get (C := RX10) (T := TX10) (N := 9) X hW (by omega) hO rfl lk_0 3 (by decide) lk_2 rfl dX10_foresight_5 ?_
  refine x_cv (x_runV (k := 1) (As := [.ref (A (i + 3))]) (rest := []) X hW (c_X2_foreseeInto l E A n _ g (i + 12) cz (bcl i co) br (LkM L co) (i + 3) (by omega) hC (hB.bks hi hcb) (fun k _ => Or.inl (by have := bcl_far (i := i) co k; omega)) (fun k hk => (hB.2.2.1 _ (hcb k hk)).2) (by omega) hRX (by omega) (fun k _ => Or.inl (by have := bcl_far (i := i) co k; omega))) (by omega) hcm rfl gX10_foresight_X2_foreseeInto rfl rfl rfl (by decide +kernel) ⟨by decide, by decide⟩ rfl hl.1 rfl (Nat.le_of_ble_eq_true rfl) dX10_foresight_8 ⟨Nat.zero_le _, Nat.zero_le _⟩) hW (fun g_8 H locs hp_8 hW => ?_)
  obtain ⟨hR2, hC2, hf9⟩ := hp_8
  exact x_vret X hr hlk hW (⟨hR2, hC2, fun j hj => hf9 j (by omega)⟩) dX10_foresight_11

set_option maxHeartbeats 4000000 in
set_option maxRecDepth 100000 in
/-- half -/
theorem c_X10_half (l : Launch) (E : wE) (A : Nat → Nat) (n sz : Nat) (g : Nat → va_E) (i bk : Nat) (L : Nat → List (Nat × Nat)) (cz : Nat) (co br : Nat → Nat) (hi : i + 209 < n) (hO : g i = kO A i bk) (hB : KB E A g i bk L) (hC : ComV E A g (i + 12) cz (bcl i co) br) (hcb : ∀ k, k < cz → co k < bk) (hPH : ∃ b, b ≤ 1001 ∧ HF (LkM L co) cz b) : Met l yX10_half wsX10_half ({ frames := 8, cells := 0, slots := 0, locals := 400 } : Room) (va_Pc [.ref (A (i))] (wPre E A n sz g)) (va_Qi (fun r g' => (∃ b : Nat, b ≤ 1001 ∧ r = iI (b : Int) ∧ HF (LkM L co) cz b ∧ ∀ c, c < b → ¬ HF (LkM L co) cz c) ∧ ComV E A g' (i + 12) cz (bcl i co) br ∧ ∀ j, (j < i + 12 ∨ i + 53 < j) → g' j = g j) (wAt E A n) (wF A n sz)) 0 0 (wF A n sz) := by
  refine x_met (cc := cX10_half) (maxL := 1) (ret := (some .int)) [.ref (A (i))] (by decide) rfl (Nat.le_of_ble_eq_true rfl) ?_
  intro p_ e_ s_ m_ below meth c_ ls X hr hlk hnm hsz hW hl
  have hl : lv_has ls 1 [(0, .ref (A (i)))] := hl
  have lk_0 : ∀ w ∈ wsX100, w ∈ wsX10_half := by decide +kernel
  have lk_1 : Cond.fieldLink RX10 35 (TX10 4).1 (TX10 4).2.1 (TX10 4).2.2.1 ∈ wsX10_half := by decide +kernel
  have hO : g i = .inr (10, [.ref (A (i + 1)), .ref (A (i + 2)), .int (iI ((bk : Int))), .ref (A (i + 3)), .ref (A (i + 12)), .ref (A (i + 54)), .ref (A (i + 65)), .ref (A (i + 114)), .ref (A (i + 123))]) := hO
  have hcm := hC.1
  have hz10 : cz ≤ 10 := hC.2.1.2.1
  refine lv_aload_n X.1 X.2.1 dX10_half_0 rfl (lv_at hl 0 rfl) ?_
  refine x_get (C := RX10) (T := TX10) (N := 9) X hW (by omega) hO rfl lk_0 4 (by decide) lk_1 rfl dX10_half_1 ?_
  refine x_ci (x_runV (k := 0) (As := []) (rest := []) X hW (c_X2_lowestBarForHalf l E A n _ g (i + 12) cz (bcl i co) br (LkM L co) (by omega) hC (hB.bks hi hcb) (fun k _ => Or.inl (by have := bcl_far (i := i) co k; omega)) hPH) (by omega) hcm rfl gX10_half_X2_lowestBarForHalf rfl rfl rfl (by decide +kernel) ⟨by decide, by decide⟩ rfl hl.1 rfl (Nat.le_of_ble_eq_true rfl) dX10_half_4 ⟨Nat.zero_le _, Nat.zero_le _⟩) hW (fun r_4 g_4 H locs hp_4 hW => ?_)
  obtain ⟨⟨b, hb1, hr9, hb2, hb3⟩, hC2, hf9⟩ := hp_4
  subst hr9
  exact x_iret X hr hlk hW (⟨⟨b, hb1, rfl, hb2, hb3⟩, hC2, fun j hj => hf9 j (by omega)⟩) dX10_half_7
