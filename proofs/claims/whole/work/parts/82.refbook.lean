/-! ===== the reference: book ===== -/
def rOK (nm : Nat → Int) (ln : Int) (m : Nat) : Prop := (m : Int) ≤ ln - 1 ∧ 0 ≤ nm m ∧ nm m ≤ 1000
theorem rOK_rdz {nm : Nat → Int} {ln : Int} {m : Nat} (h : rOK nm ln m) : rdz nm ln (m : Int) 0 1000 = nm m := by
  unfold rdz
  rw [if_pos ⟨by omega, h.1⟩, Int.toNat_natCast, if_pos ⟨h.2.1, h.2.2⟩]
theorem rdE_ok {nm : Nat → Int} {ln : Int} : ∀ k, (∀ m, 1 ≤ m → m ≤ 2 * k → rOK nm ln m) → rdE nm ln k = 0 := by
  intro k
  induction k with
  | zero => intro _; rfl
  | succ k ih =>
    intro h
    have h1 := rOK_rdz (h (2 * k + 1) (by omega) (by omega))
    have h2 := rOK_rdz (h (2 * k + 2) (by omega) (by omega))
    have o1 := (h (2 * k + 1) (by omega) (by omega)).2.1
    have o2 := (h (2 * k + 2) (by omega) (by omega)).2.1
    rw [show ((2 * k + 1 : Nat) : Int) = 2 * (k : Int) + 1 from by omega] at h1
    rw [show ((2 * k + 2 : Nat) : Int) = 2 * (k : Int) + 2 from by omega] at h2
    exact rdE_c (ih (fun m a b => h m a (by omega))) (by omega) (by omega)
/-- the first number that isn't as told says how the reading ends -/
theorem rd_fail {nm : Nat → Int} {ln : Int} {c M : Nat} (h0 : 1 ≤ ln) (hM : nm 0 = (M : Int)) (hM1 : 1 ≤ M) (hM8 : M ≤ 8) (h : ∀ m, 1 ≤ m → m ≤ c → rOK nm ln m) (hc : c + 1 ≤ 2 * M) {e : Int} (he : rdz nm ln ((c + 1 : Nat) : Int) 0 1000 = e) (hn : e < 0) : rdB2 nm ln = e := by
  have r0 : rdz nm ln 0 1 8 = (M : Int) := by
    unfold rdz
    rw [if_pos ⟨by omega, by omega⟩, show (0 : Int).toNat = 0 from rfl, hM, if_pos ⟨by omega, by omega⟩]
  have key : rdE nm ln (c / 2 + 1) = e := by
    have hz := rdE_ok (nm := nm) (ln := ln) (c / 2) (fun m a b => h m a (by omega))
    by_cases hp : c % 2 = 0
    · rw [show ((c + 1 : Nat) : Int) = 2 * ((c / 2 : Nat) : Int) + 1 from by omega] at he
      rw [rdE_a hz (by omega), he]
    · have h1 := rOK_rdz (h c (by omega) (Nat.le_refl _))
      have o1 := (h c (by omega) (Nat.le_refl _)).2.1
      rw [show ((c : Nat) : Int) = 2 * ((c / 2 : Nat) : Int) + 1 from by omega] at h1
      rw [show ((c + 1 : Nat) : Int) = 2 * ((c / 2 : Nat) : Int) + 2 from by omega] at he
      rw [rdE_b hz (by omega) (by omega), he]
  have k2 : rdE nm ln M = e := by
    rw [rdE_keep (show c / 2 + 1 ≤ M by omega) (by omega), key]
  unfold rdB2
  rw [r0, if_neg (by omega), Int.toNat_natCast, k2, if_pos (by omega)]
theorem rd_done {nm : Nat → Int} {ln : Int} {M : Nat} (h0 : 1 ≤ ln) (hM : nm 0 = (M : Int)) (hM1 : 1 ≤ M) (hM8 : M ≤ 8) (h : ∀ m, 1 ≤ m → m ≤ 2 * M → rOK nm ln m) : rdB2 nm ln = if bE (rdL nm M) (fun _ => 1) = 0 then -4 else 0 := by
  have r0 : rdz nm ln 0 1 8 = (M : Int) := by
    unfold rdz
    rw [if_pos ⟨by omega, by omega⟩, show (0 : Int).toNat = 0 from rfl, hM, if_pos ⟨by omega, by omega⟩]
  unfold rdB2
  rw [r0, if_neg (by omega), Int.toNat_natCast, rdE_ok M h, if_neg (by omega)]
theorem rd_small {nm : Nat → Int} {ln : Int} (h : ln < 1) : rdB2 nm ln = -6 := by
  have r0 : rdz nm ln 0 1 8 = -6 := by
    unfold rdz
    rw [if_neg (by omega)]
  unfold rdB2
  rw [r0, if_pos (by omega)]
theorem rd_many {nm : Nat → Int} {ln : Int} (h0 : 1 ≤ ln) (h : nm 0 < 1 ∨ 8 < nm 0) : rdB2 nm ln = -4 := by
  have r0 : rdz nm ln 0 1 8 = -4 := by
    unfold rdz
    rw [if_pos ⟨by omega, by omega⟩, show (0 : Int).toNat = 0 from rfl, if_neg (by omega)]
  unfold rdB2
  rw [r0, if_pos (by omega)]
theorem rdL_len (nm : Nat → Int) : ∀ k, (rdL nm k).length = k := by
  intro k
  induction k with
  | zero => rfl
  | succ k ih => show (rdL nm k ++ _).length = k + 1; rw [List.length_append, ih]; rfl
theorem gd_l {l m : List (Nat × Nat)} {j : Nat} (h : j < l.length) : (l ++ m).getD j (0, 0) = l.getD j (0, 0) := by
  rw [List.getD_eq_getElem?_getD, List.getD_eq_getElem?_getD, List.getElem?_append_left h]
theorem gd_r {l m : List (Nat × Nat)} {j : Nat} (h : l.length ≤ j) : (l ++ m).getD j (0, 0) = m.getD (j - l.length) (0, 0) := by
  rw [List.getD_eq_getElem?_getD, List.getD_eq_getElem?_getD, List.getElem?_append_right h]
theorem rdL_get (nm : Nat → Int) : ∀ k j, j < k → (rdL nm k).getD j (0, 0) = ((nm (2 * j + 1)).toNat, (nm (2 * j + 2)).toNat) := by
  intro k
  induction k with
  | zero => intro j hj; exact absurd hj (Nat.not_lt_zero _)
  | succ k ih =>
    intro j hj
    show (rdL nm k ++ [((nm (2 * k + 1)).toNat, (nm (2 * k + 2)).toNat)]).getD j (0, 0) = _
    by_cases e : j < k
    · rw [gd_l (by rw [rdL_len]; exact e)]; exact ih j e
    · rw [gd_r (by rw [rdL_len]; omega), rdL_len, show j = k from by omega, Nat.sub_self]; rfl
def bkR (rl : Nat → Int) (nm : Nat → Nat → Int) (bk : Nat) (z : Int) : Int := if 0 ≤ z ∧ z ≤ 9 then (if bk = 16 then -8 else if rl z.toNat = -1 then -5 else if rdB2 (nm z.toNat) (rl z.toNat) ≠ 0 then rdB2 (nm z.toNat) (rl z.toNat) else (bk : Int)) else -2
theorem booksM_add {f5 f6 f7 f8 a6 a7 : Nat → Int32} {bk : Nat} {L : Nat → List (Nat × Nat)} {nm : Nat → Int} {ln : Int} {M al : Nat} (hbv : ∀ b, b < bk → (L b).length ≤ 8 ∧ f5 b = iI (((L b).length : Nat) : Int) ∧ f8 b = iI ((bE (L b) (fun _ => 1) : Nat) : Int) ∧ 0 < bE (L b) (fun _ => 1) ∧ ∀ k, k < (L b).length → f6 (8 * b + k) = iI ((((L b).getD k (0, 0)).1 : Nat) : Int) ∧ f7 (8 * b + k) = iI ((((L b).getD k (0, 0)).2 : Nat) : Int) ∧ ((L b).getD k (0, 0)).1 ≤ 1000 ∧ ((L b).getD k (0, 0)).2 ≤ 1000) (hM8 : M ≤ 8) (hal : al = bE (rdL nm M) (fun _ => 1)) (hp : al ≠ 0) (h : ∀ m, 1 ≤ m → m ≤ 2 * M → rOK nm ln m) (h6 : ∀ k, 2 * k + 1 ≤ 2 * M → a6 (8 * bk + k) = iI (nm (2 * k + 1))) (h7 : ∀ k, 2 * k + 2 ≤ 2 * M → a7 (8 * bk + k) = iI (nm (2 * k + 2))) (o6 : ∀ j, j < 8 * bk → a6 j = f6 j ∧ a7 j = f7 j) : ∀ b, b < bk + 1 → (va_up L bk (rdL nm M) b).length ≤ 8 ∧ upd f5 bk (iI (M : Int)) b = iI (((va_up L bk (rdL nm M) b).length : Nat) : Int) ∧ upd f8 bk (iI ((al : Nat) : Int)) b = iI ((bE (va_up L bk (rdL nm M) b) (fun _ => 1) : Nat) : Int) ∧ 0 < bE (va_up L bk (rdL nm M) b) (fun _ => 1) ∧ ∀ k, k < (va_up L bk (rdL nm M) b).length → a6 (8 * b + k) = iI ((((va_up L bk (rdL nm M) b).getD k (0, 0)).1 : Nat) : Int) ∧ a7 (8 * b + k) = iI ((((va_up L bk (rdL nm M) b).getD k (0, 0)).2 : Nat) : Int) ∧ ((va_up L bk (rdL nm M) b).getD k (0, 0)).1 ≤ 1000 ∧ ((va_up L bk (rdL nm M) b).getD k (0, 0)).2 ≤ 1000 := by
  intro b hb
  by_cases e : b = bk
  · subst e
    rw [va_up_self, upd_s, upd_s, rdL_len, ← hal]
    refine ⟨hM8, rfl, rfl, by omega, fun k hk => ?_⟩
    have o1 := h (2 * k + 1) (by omega) (by omega)
    have o2 := h (2 * k + 2) (by omega) (by omega)
    rw [rdL_get nm M k hk, h6 k (by omega), h7 k (by omega)]
    refine ⟨?_, ?_, ?_, ?_⟩
    · congr 1; show _ = (((nm (2 * k + 1)).toNat : Nat) : Int); have := o1.2.1; omega
    · congr 1; show _ = (((nm (2 * k + 2)).toNat : Nat) : Int); have := o2.2.1; omega
    · show (nm (2 * k + 1)).toNat ≤ 1000; have := o1.2.2; omega
    · show (nm (2 * k + 2)).toNat ≤ 1000; have := o2.2.2; omega
  · rw [va_up_ne _ _ e, upd_n e, upd_n e]
    obtain ⟨c1, c2, c3, c4, c5⟩ := hbv b (by omega)
    refine ⟨c1, c2, c3, c4, fun k hk => ?_⟩
    rw [(o6 _ (by omega)).1, (o6 _ (by omega)).2]
    exact c5 k hk

set_option maxHeartbeats 4000000 in
set_option maxRecDepth 100000 in
/-- book -/
theorem c_X11_book (l : Launch) (E : wE) (A : Nat → Nat) (n sz : Nat) (g : Nat → va_E) (i : Nat) (q : Nat → Int) (rw rl : Nat → Int) (nm : Nat → Nat → Int) (bk : Nat) (L : Nat → List (Nat × Nat)) (z : Int) (hi : i + 16 < n) (hO : g i = mO A i q) (hR : RowsM E A g i rw rl nm) (hq0 : q 0 = (bk : Int)) (hB : BooksM E A g i bk L) (hz : I32 z) : Met l yX11_book wsX11_book ({ frames := 2, cells := 0, slots := 0, locals := 80 } : Room) (va_Pc [.ref (A (i)), .int (iI (z))] (wPre E A n sz g)) (va_Qi (fun r g' => r = iI (bkR rl nm bk z) ∧ (0 ≤ bkR rl nm bk z → g' i = mO A i (va_up q 0 ((bk : Int) + 1)) ∧ BooksM E A g' i (bk + 1) (va_up L bk (rdL (nm z.toNat) ((nm z.toNat) 0).toNat))) ∧ (bkR rl nm bk z < 0 → g' i = mO A i q ∧ BooksM E A g' i bk L) ∧ ∀ j, (j ≠ i ∧ j ≠ i + 5 ∧ j ≠ i + 6 ∧ j ≠ i + 7 ∧ j ≠ i + 8) → g' j = g j) (wAt E A n) (wF A n sz)) 0 0 (wF A n sz) := by
  refine x_met (cc := cX11_book) (maxL := 10) (ret := (some .int)) [.ref (A (i)), .int (iI (z))] (by decide) rfl (Nat.le_of_ble_eq_true rfl) ?_
  intro p_ e_ s_ m_ below meth c_ ls X hr hlk hnm hsz hW hl
  have hl : lv_has ls 10 [(0, .ref (A (i))), (1, .int (iI (z)))] := hl
  have lk_0 : ∀ w ∈ wsX110, w ∈ wsX11_book := by decide +kernel
  have lk_1 : Cond.fieldLink RX11 116 (TX11 4).1 (TX11 4).2.1 (TX11 4).2.2.1 ∈ wsX11_book := by decide +kernel
  have lk_2 : Cond.fieldLink RX11 14 (TX11 1).1 (TX11 1).2.1 (TX11 1).2.2.1 ∈ wsX11_book := by decide +kernel
  have lk_3 : Cond.fieldLink RX11 21 (TX11 3).1 (TX11 3).2.1 (TX11 3).2.2.1 ∈ wsX11_book := by decide +kernel
  have lk_4 : Cond.constantLong RX11 120 (8) ∈ wsX11_book := by decide +kernel
  have lk_5 : Cond.constantLong RX11 79 (2) ∈ wsX11_book := by decide +kernel
  have lk_6 : Cond.fieldLink RX11 24 (TX11 5).1 (TX11 5).2.1 (TX11 5).2.2.1 ∈ wsX11_book := by decide +kernel
  have lk_7 : Cond.fieldLink RX11 33 (TX11 8).1 (TX11 8).2.1 (TX11 8).2.2.1 ∈ wsX11_book := by decide +kernel
  have lk_8 : Cond.constantLong RX11 122 (1000) ∈ wsX11_book := by decide +kernel
  have lk_9 : Cond.fieldLink RX11 30 (TX11 7).1 (TX11 7).2.1 (TX11 7).2.2.1 ∈ wsX11_book := by decide +kernel
  have lk_10 : Cond.fieldLink RX11 27 (TX11 6).1 (TX11 6).2.1 (TX11 6).2.2.1 ∈ wsX11_book := by decide +kernel
  have hO : g i = .inr (11, [.ref (A (i + 1)), .ref (A (i + 2)), .ref (A (i + 3)), .ref (A (i + 4)), .int (iI (q 0)), .ref (A (i + 5)), .ref (A (i + 6)), .ref (A (i + 7)), .ref (A (i + 8)), .int (iI (q 1)), .ref (A (i + 9)), .ref (A (i + 10)), .ref (A (i + 11)), .int (iI (q 2)), .ref (A (i + 12)), .ref (A (i + 13)), .int (iI (q 3)), .ref (A (i + 14)), .ref (A (i + 15)), .ref (A (i + 16)), .int (iI (q 4))]) := hO
  have hOg := hO
  have hfr : ∀ j, j ≠ i + 1 → g j = g j := fun _ _ => rfl
  obtain ⟨fe, fw, fn, h2, h3, h4, hv⟩ := hR
  have h2o := h2
  have h4o := h4
  have hBo := hB
  obtain ⟨f5, f6, f7, f8, h5, h6, h7, h8, hbk, hbv⟩ := id hB
  have h5o := h5
  have h6o := h6
  have h7o := h7
  have h8o := h8
  have hz1 := hz.1
  have hz2 := hz.2
  refine lv_iload_n X.1 X.2.1 dX11_book_0 rfl (lv_at hl 1 rfl) ?_
  refine x_ci (x_runS (k := 1) (As := [.int (iI (z))]) (rest := []) X hW (c_X11_isSlot l E A n _ g z hz) gX11_book_X11_isSlot rfl rfl rfl (by decide +kernel) ⟨by decide, by decide⟩ rfl hl.1 rfl (Nat.le_of_ble_eq_true rfl) dX11_book_1 ⟨Nat.zero_le _, Nat.zero_le _⟩) hW (fun r_1 g_1 H locs hp_1 hW => ?_)
  obtain ⟨hr_1, he_1⟩ := hp_1
  rw [he_1] at hW
  subst hr_1
  refine x_if_ne (tgt := 10) X ⟨by split <;> decide, by split <;> decide⟩ dX11_book_4 (by decide) (fun b_4 => ?_) (fun b_4 => ?_)
  · have hs : 0 ≤ z ∧ z ≤ 9 := Decidable.byContradiction (fun h => by rw [if_neg h] at b_4; exact b_4 rfl)
    have hvz := hv z.toNat (by omega)
    refine lv_aload_n X.1 X.2.1 dX11_book_10 rfl (lv_at hl 0 rfl) ?_
    refine x_get (C := RX11) (T := TX11) (N := 21) X hW (by omega) hO rfl lk_0 4 (by decide) lk_1 rfl dX11_book_11 ?_
    refine x_seti ((bk : Int)) hq0 ?_
    refine x_bipush X (by decide) dX11_book_14 ?_
    refine x_icmp_ne (tgt := 22) X ⟨by omega, by omega⟩ ⟨by decide, by decide⟩ dX11_book_16 (by decide) (fun b_16 => ?_) (fun b_16 => ?_)
    · have hbk15 : ¬ bk = 16 := by omega
      refine lv_aload_n X.1 X.2.1 dX11_book_22 rfl (lv_at hl 0 rfl) ?_
      refine x_get (C := RX11) (T := TX11) (N := 21) X hW (by omega) hO rfl lk_0 1 (by decide) lk_2 rfl dX11_book_23 ?_
      refine lv_iload_n X.1 X.2.1 dX11_book_26 rfl (lv_at hl 1 rfl) ?_
      refine x_iald X hW (by omega) h2 (v := iI (rl z.toNat + 1)) z.toNat (by omega) (by omega) (by decide) hvz.2.1 dX11_book_27 ?_
      refine x_if_ne (tgt := 34) X ⟨by omega, by omega⟩ dX11_book_28 (by decide) (fun b_28 => ?_) (fun b_28 => ?_)
      · have hrl1 : ¬ (rl z.toNat) = -1 := by omega
        have hR1 : ∀ e : Int, rdB2 (nm z.toNat) (rl z.toNat) = e → e ≠ 0 → bkR rl nm bk z = e := fun e h8 h9 => by unfold bkR; rw [if_pos hs, if_neg hbk15, if_neg hrl1, if_pos (by rw [h8]; exact h9), h8]
        refine lv_aload_n X.1 X.2.1 dX11_book_34 rfl (lv_at hl 0 rfl) ?_
        refine x_get (C := RX11) (T := TX11) (N := 21) X hW (by omega) hO rfl lk_0 1 (by decide) lk_2 rfl dX11_book_35 ?_
        refine lv_iload_n X.1 X.2.1 dX11_book_38 rfl (lv_at hl 1 rfl) ?_
        refine x_iald X hW (by omega) h2 (v := iI (rl z.toNat + 1)) z.toNat (by omega) (by omega) (by decide) hvz.2.1 dX11_book_39 ?_
        refine x_iconst X dX11_book_40 ?_
        refine x_isub X dX11_book_41 ?_
        refine x_seti ((rl z.toNat)) (by omega) ?_
        refine lv_istore_n (lv' := [(2, .int (iI ((rl z.toNat)))), (0, .ref (A (i))), (1, .int (iI (z)))]) X.1 X.2.1 dX11_book_42 rfl hl (by decide) rfl (fun ls hl => ?_)
        refine lv_iload_n X.1 X.2.1 dX11_book_43 rfl (lv_at hl 0 rfl) ?_
        refine x_if_ne (tgt := 50) X ⟨by omega, by omega⟩ dX11_book_44 (by decide) (fun b_44 => ?_) (fun b_44 => ?_)
        · have hln : 1 ≤ (rl z.toNat) := by omega
          have hn0 : I64 ((nm z.toNat) 0) := ((hvz.2.2 hrl1).2.2 0 (by omega)).1
          refine lv_aload_n X.1 X.2.1 dX11_book_50 rfl (lv_at hl 1 rfl) ?_
          refine x_get (C := RX11) (T := TX11) (N := 21) X hW (by omega) hO rfl lk_0 3 (by decide) lk_3 rfl dX11_book_51 ?_
          refine x_bipush X (by decide) dX11_book_54 ?_
          refine lv_iload_n X.1 X.2.1 dX11_book_56 rfl (lv_at hl 2 rfl) ?_
          refine x_imul X dX11_book_57 ?_
          refine x_lald X hW (by omega) h4 (v := lI ((nm z.toNat) 0)) (40 * z.toNat + 0) (by omega) (by omega) (by decide) (((hvz.2.2 (by omega)).2.2 0 (by omega)).2) dX11_book_58 ?_
          refine lv_lstore_n (lv' := [(3, .long (lI ((nm z.toNat) 0))), (2, .int (iI ((rl z.toNat)))), (0, .ref (A (i))), (1, .int (iI (z)))]) X.1 X.2.1 dX11_book_59 rfl hl (by decide) rfl (fun ls hl => ?_)
          refine lv_lload_n X.1 X.2.1 dX11_book_60 rfl (lv_at hl 0 rfl) ?_
          refine x_lconst X 1 (by decide) dX11_book_61 ?_
          refine x_lcmp_lt (tgt := 74) X hn0 ⟨by decide, by decide⟩ dX11_book_62 dX11_book_63 (by decide) (fun b_62 => ?_) (fun b_62 => ?_)
          · have hR0 := hR1 _ (rd_many hln (Or.inl (by omega))) (by decide)
            refine x_bipush X (by decide) dX11_book_74 ?_
            exact x_iret X hr hlk hW (⟨by rw [hR0], fun h => by rw [hR0] at h; omega, fun _ => ⟨hO, hBo⟩, fun _ _ => rfl⟩) dX11_book_76
          · refine lv_lload_n X.1 X.2.1 dX11_book_66 rfl (lv_at hl 0 rfl) ?_
            refine x_ldc2 X (8) (by decide) lk_4 dX11_book_67 ?_
            refine x_lcmp_le (tgt := 77) X hn0 ⟨by decide, by decide⟩ dX11_book_70 dX11_book_71 (by decide) (fun b_70 => ?_) (fun b_70 => ?_)
            · obtain ⟨M, hM⟩ : ∃ M : Nat, (nm z.toNat) 0 = (M : Int) := ⟨((nm z.toNat) 0).toNat, by omega⟩
              refine x_iconst X dX11_book_77 ?_
              refine x_seti (((0 : Nat) : Int)) rfl ?_
              refine lv_istore (lv' := [(5, .int (iI (((0 : Nat) : Int)))), (3, .long (lI ((nm z.toNat) 0))), (2, .int (iI ((rl z.toNat)))), (0, .ref (A (i))), (1, .int (iI (z)))]) X.1 X.2.1 dX11_book_78 hl (by decide) rfl (fun ls hl => ?_)
              refine x_iconst X dX11_book_80 ?_
              refine x_seti (((0 + 1 : Nat) : Int)) rfl ?_
              refine lv_istore (lv' := [(6, .int (iI (((0 + 1 : Nat) : Int)))), (5, .int (iI (((0 : Nat) : Int)))), (3, .long (lI ((nm z.toNat) 0))), (2, .int (iI ((rl z.toNat)))), (0, .ref (A (i))), (1, .int (iI (z)))]) X.1 X.2.1 dX11_book_81 hl (by decide) rfl (fun ls hl => ?_)
              have loop_83 : ∀ (fuel : Nat) (c : Nat) (al : Nat) (a6 : Nat → Int32) (a7 : Nat → Int32) (g1 : Nat → va_E) (H : Heap) (locs : List Loc) (ls : Array Slot), (2 * M - c) < fuel → (c ≤ 2 * M) → (al = bE (rdL (nm z.toNat) (c / 2)) (fun _ => 1)) → (∀ m, 1 ≤ m → m ≤ c → rOK (nm z.toNat) (rl z.toNat) m) → (g1 (i + 6) = aI E 128 a6) → (g1 (i + 7) = aI E 128 a7) → (∀ k, 2 * k + 1 ≤ c → a6 (8 * bk + k) = iI ((nm z.toNat) (2 * k + 1))) → (∀ k, 2 * k + 2 ≤ c → a7 (8 * bk + k) = iI ((nm z.toNat) (2 * k + 2))) → (∀ j, j < 8 * bk → a6 j = f6 j ∧ a7 j = f7 j) → (al ≤ 1000 * c) → (∀ j, (j ≠ i + 6 ∧ j ≠ i + 7) → g1 j = g j) → wH E (wF A n sz) A n s_ g1 H locs → lv_has ls 10 [(0, .ref (A (i))), (1, .int (iI (z))), (2, .int (iI ((rl z.toNat)))), (3, .long (lI ((nm z.toNat) 0))), (5, .int (iI (((al : Nat) : Int)))), (6, .int (iI (((c + 1 : Nat) : Int))))] → W p_ l e_ ({ frames := 2, cells := 0, slots := 0, locals := 80 } : Room) s_ m_ [.ref (A (i)), .int (iI (z))].toArray below meth c_ H locs 0 0 (MQ below (va_Qi (fun r g' => r = iI (bkR rl nm bk z) ∧ (0 ≤ bkR rl nm bk z → g' i = mO A i (va_up q 0 ((bk : Int) + 1)) ∧ BooksM E A g' i (bk + 1) (va_up L bk (rdL (nm z.toNat) ((nm z.toNat) 0).toNat))) ∧ (bkR rl nm bk z < 0 → g' i = mO A i q ∧ BooksM E A g' i bk L) ∧ ∀ j, (j ≠ i ∧ j ≠ i + 5 ∧ j ≠ i + 6 ∧ j ≠ i + 7 ∧ j ≠ i + 8) → g' j = g j) (wAt E A n) (wF A n sz)) [.ref (A (i)), .int (iI (z))].toArray s_ 0 0 (wF A n sz)) (F0 m_ 83 ls []) := by
                intro fuel
                induction fuel with
                | zero => intro c al a6 a7 g1 H locs ls hm; exact absurd hm (Nat.not_lt_zero _)
                | succ fuel ih_83 =>
                  intro c al a6 a7 g1 H locs ls hm hc hal hok h6 h7 hw6 hw7 o6 hal9 hfr hW hl
                  have hO : g1 i = .inr (11, [.ref (A (i + 1)), .ref (A (i + 2)), .ref (A (i + 3)), .ref (A (i + 4)), .int (iI (q 0)), .ref (A (i + 5)), .ref (A (i + 6)), .ref (A (i + 7)), .ref (A (i + 8)), .int (iI (q 1)), .ref (A (i + 9)), .ref (A (i + 10)), .ref (A (i + 11)), .int (iI (q 2)), .ref (A (i + 12)), .ref (A (i + 13)), .int (iI (q 3)), .ref (A (i + 14)), .ref (A (i + 15)), .ref (A (i + 16)), .int (iI (q 4))]) := (hfr _ (by omega)).trans hOg
                  have h2 : g1 (i + 2) = aI E 10 fe := (hfr _ (by omega)).trans h2o
                  have h4 : g1 (i + 4) = aJ E 400 fn := (hfr _ (by omega)).trans h4o
                  have h5 : g1 (i + 5) = aI E 16 f5 := (hfr _ (by omega)).trans h5o
                  have h8 : g1 (i + 8) = aI E 16 f8 := (hfr _ (by omega)).trans h8o
                  refine lv_iload X.1 X.2.1 dX11_book_83 (lv_at hl 5 rfl) ?_
                  refine x_i2l X ⟨by omega, by omega⟩ dX11_book_85 ?_
                  refine x_ldc2 X (2) (by decide) lk_5 dX11_book_86 ?_
                  refine lv_lload_n X.1 X.2.1 dX11_book_89 rfl (lv_at hl 3 rfl) ?_
                  refine x_lmul X dX11_book_90 ?_
                  refine x_lcmp_gt (tgt := 198) X ⟨by omega, by omega⟩ ⟨by omega, by omega⟩ dX11_book_91 dX11_book_92 (by decide) (fun b_91 => ?_) (fun b_91 => ?_)
                  · have hcM : c = 2 * M := by omega
                    rw [show c / 2 = M from by omega] at hal
                    rw [hcM] at hok hw6 hw7
                    have hrd := rd_done hln hM (by omega) (by omega) hok
                    rw [← hal] at hrd
                    refine lv_iload X.1 X.2.1 dX11_book_198 (lv_at hl 4 rfl) ?_
                    refine x_if_ne (tgt := 206) X ⟨by omega, by omega⟩ dX11_book_200 (by decide) (fun b_200 => ?_) (fun b_200 => ?_)
                    · have hR0 : bkR rl nm bk z = (bk : Int) := by unfold bkR; rw [if_pos hs, if_neg hbk15, if_neg hrl1, if_neg (by rw [hrd, if_neg (by omega)]; exact fun h => h rfl)]
                      refine lv_aload_n X.1 X.2.1 dX11_book_206 rfl (lv_at hl 0 rfl) ?_
                      refine x_get (C := RX11) (T := TX11) (N := 21) X hW (by omega) hO rfl lk_0 5 (by decide) lk_6 rfl dX11_book_207 ?_
                      refine lv_aload_n X.1 X.2.1 dX11_book_210 rfl (lv_at hl 0 rfl) ?_
                      refine x_get (C := RX11) (T := TX11) (N := 21) X hW (by omega) hO rfl lk_0 4 (by decide) lk_1 rfl dX11_book_211 ?_
                      refine x_seti ((bk : Int)) hq0 ?_
                      refine lv_lload_n X.1 X.2.1 dX11_book_214 rfl (lv_at hl 3 rfl) ?_
                      refine x_l2i X dX11_book_215 ?_
                      refine x_seti ((M : Int)) hM ?_
                      refine x_iast X hW (by omega) h5 bk (by omega) (by omega) (by decide) dX11_book_216 (fun g_216 H locs hg_216 hW => ?_)
                      have hO : g_216 i = .inr (11, [.ref (A (i + 1)), .ref (A (i + 2)), .ref (A (i + 3)), .ref (A (i + 4)), .int (iI (q 0)), .ref (A (i + 5)), .ref (A (i + 6)), .ref (A (i + 7)), .ref (A (i + 8)), .int (iI (q 1)), .ref (A (i + 9)), .ref (A (i + 10)), .ref (A (i + 11)), .int (iI (q 2)), .ref (A (i + 12)), .ref (A (i + 13)), .int (iI (q 3)), .ref (A (i + 14)), .ref (A (i + 15)), .ref (A (i + 16)), .int (iI (q 4))]) := by rw [hg_216, va_up_ne _ _ (by omega)]; exact hO
                      have h2 : g_216 (i + 2) = aI E 10 fe := by rw [hg_216, va_up_ne _ _ (by omega)]; exact h2
                      have h4 : g_216 (i + 4) = aJ E 400 fn := by rw [hg_216, va_up_ne _ _ (by omega)]; exact h4
                      have h6 : g_216 (i + 6) = aI E 128 a6 := by rw [hg_216, va_up_ne _ _ (by omega)]; exact h6
                      have h7 : g_216 (i + 7) = aI E 128 a7 := by rw [hg_216, va_up_ne _ _ (by omega)]; exact h7
                      have h8 : g_216 (i + 8) = aI E 16 f8 := by rw [hg_216, va_up_ne _ _ (by omega)]; exact h8
                      have h5 : g_216 (i + 5) = aI E 16 (upd f5 bk (iI ((M : Int)))) := by rw [hg_216]; exact va_up_self _ _ _
                      refine lv_aload_n X.1 X.2.1 dX11_book_217 rfl (lv_at hl 0 rfl) ?_
                      refine x_get (C := RX11) (T := TX11) (N := 21) X hW (by omega) hO rfl lk_0 8 (by decide) lk_7 rfl dX11_book_218 ?_
                      refine lv_aload_n X.1 X.2.1 dX11_book_221 rfl (lv_at hl 0 rfl) ?_
                      refine x_get (C := RX11) (T := TX11) (N := 21) X hW (by omega) hO rfl lk_0 4 (by decide) lk_1 rfl dX11_book_222 ?_
                      refine x_seti ((bk : Int)) hq0 ?_
                      refine lv_iload X.1 X.2.1 dX11_book_225 (lv_at hl 4 rfl) ?_
                      refine x_iast X hW (by omega) h8 bk (by omega) (by omega) (by decide) dX11_book_227 (fun g_227 H locs hg_227 hW => ?_)
                      have hO : g_227 i = .inr (11, [.ref (A (i + 1)), .ref (A (i + 2)), .ref (A (i + 3)), .ref (A (i + 4)), .int (iI (q 0)), .ref (A (i + 5)), .ref (A (i + 6)), .ref (A (i + 7)), .ref (A (i + 8)), .int (iI (q 1)), .ref (A (i + 9)), .ref (A (i + 10)), .ref (A (i + 11)), .int (iI (q 2)), .ref (A (i + 12)), .ref (A (i + 13)), .int (iI (q 3)), .ref (A (i + 14)), .ref (A (i + 15)), .ref (A (i + 16)), .int (iI (q 4))]) := by rw [hg_227, va_up_ne _ _ (by omega)]; exact hO
                      have h2 : g_227 (i + 2) = aI E 10 fe := by rw [hg_227, va_up_ne _ _ (by omega)]; exact h2
                      have h4 : g_227 (i + 4) = aJ E 400 fn := by rw [hg_227, va_up_ne _ _ (by omega)]; exact h4
                      have h5 : g_227 (i + 5) = aI E 16 (upd f5 bk (iI ((M : Int)))) := by rw [hg_227, va_up_ne _ _ (by omega)]; exact h5
                      have h6 : g_227 (i + 6) = aI E 128 a6 := by rw [hg_227, va_up_ne _ _ (by omega)]; exact h6
                      have h7 : g_227 (i + 7) = aI E 128 a7 := by rw [hg_227, va_up_ne _ _ (by omega)]; exact h7
                      have h8 : g_227 (i + 8) = aI E 16 (upd f8 bk (iI (((al : Nat) : Int)))) := by rw [hg_227]; exact va_up_self _ _ _
                      refine lv_aload_n X.1 X.2.1 dX11_book_228 rfl (lv_at hl 0 rfl) ?_
                      refine lv_dup X.1 X.2.1 dX11_book_229 rfl ?_
                      refine x_get (C := RX11) (T := TX11) (N := 21) X hW (by omega) hO rfl lk_0 4 (by decide) lk_1 rfl dX11_book_230 ?_
                      refine x_seti ((bk : Int)) hq0 ?_
                      refine x_iconst X dX11_book_233 ?_
                      refine x_iadd X dX11_book_234 ?_
                      refine x_put (C := RX11) (T := TX11) (N := 21) X hW (by omega) hO rfl lk_0 tyX11 tyX11_ok nmX11 4 (by decide) lk_1 rfl rfl rfl (Nat.le_of_ble_eq_true rfl) dX11_book_235 (fun g_235 H locs hg_235 hW => ?_)
                      have h2 : g_235 (i + 2) = aI E 10 fe := by rw [hg_235, va_up_ne _ _ (by omega)]; exact h2
                      have h4 : g_235 (i + 4) = aJ E 400 fn := by rw [hg_235, va_up_ne _ _ (by omega)]; exact h4
                      have h5 : g_235 (i + 5) = aI E 16 (upd f5 bk (iI ((M : Int)))) := by rw [hg_235, va_up_ne _ _ (by omega)]; exact h5
                      have h6 : g_235 (i + 6) = aI E 128 a6 := by rw [hg_235, va_up_ne _ _ (by omega)]; exact h6
                      have h7 : g_235 (i + 7) = aI E 128 a7 := by rw [hg_235, va_up_ne _ _ (by omega)]; exact h7
                      have h8 : g_235 (i + 8) = aI E 16 (upd f8 bk (iI (((al : Nat) : Int)))) := by rw [hg_235, va_up_ne _ _ (by omega)]; exact h8
                      have hO : g_235 i = .inr (11, [.ref (A (i + 1)), .ref (A (i + 2)), .ref (A (i + 3)), .ref (A (i + 4)), .int (iI (((bk : Int)) + 1)), .ref (A (i + 5)), .ref (A (i + 6)), .ref (A (i + 7)), .ref (A (i + 8)), .int (iI (q 1)), .ref (A (i + 9)), .ref (A (i + 10)), .ref (A (i + 11)), .int (iI (q 2)), .ref (A (i + 12)), .ref (A (i + 13)), .int (iI (q 3)), .ref (A (i + 14)), .ref (A (i + 15)), .ref (A (i + 16)), .int (iI (q 4))]) := by rw [hg_235]; exact va_up_self _ _ _
                      refine lv_aload_n X.1 X.2.1 dX11_book_238 rfl (lv_at hl 0 rfl) ?_
                      refine x_get (C := RX11) (T := TX11) (N := 21) X hW (by omega) hO rfl lk_0 4 (by decide) lk_1 rfl dX11_book_239 ?_
                      refine x_iconst X dX11_book_242 ?_
                      refine x_isub X dX11_book_243 ?_
                      exact x_iret X hr hlk hW (⟨by rw [hR0]; congr 1; omega, fun _ => ⟨hO, by rw [show ((nm z.toNat) 0).toNat = M from by omega]; exact ⟨_, _, _, _, h5, h6, h7, h8, by omega, booksM_add hbv (by omega) hal (by omega) hok hw6 hw7 o6⟩⟩, fun h => by rw [hR0] at h; omega, fun j hj => by rw [hg_235, va_up_ne _ _ (by omega), hg_227, va_up_ne _ _ (by omega), hg_216, va_up_ne _ _ (by omega)]; exact hfr j (by omega)⟩) dX11_book_244
                    · have hR0 := hR1 (-4) (by rw [hrd, if_pos (by omega)]) (by decide)
                      refine x_bipush X (by decide) dX11_book_203 ?_
                      exact x_iret X hr hlk hW (⟨by rw [hR0], fun h => by rw [hR0] at h; omega, fun _ => ⟨hO, _, _, _, _, h5, h6, h7, h8, hbk, fun b hb => by
        obtain ⟨c1, c2, c3, c4, c5⟩ := hbv b hb
        exact ⟨c1, c2, c3, c4, fun k hk => by rw [(o6 _ (by omega)).1, (o6 _ (by omega)).2]; exact c5 k hk⟩⟩, fun j hj => hfr j (by omega)⟩) dX11_book_205
                  · refine lv_iload X.1 X.2.1 dX11_book_95 (lv_at hl 5 rfl) ?_
                    refine lv_iload_n X.1 X.2.1 dX11_book_97 rfl (lv_at hl 2 rfl) ?_
                    refine x_icmp_lt (tgt := 104) X ⟨by omega, by omega⟩ ⟨by omega, by omega⟩ dX11_book_98 (by decide) (fun b_98 => ?_) (fun b_98 => ?_)
                    · have hnv : I64 ((nm z.toNat) (c + 1)) := ((hvz.2.2 hrl1).2.2 (c + 1) (by omega)).1
                      refine lv_aload_n X.1 X.2.1 dX11_book_104 rfl (lv_at hl 0 rfl) ?_
                      refine x_get (C := RX11) (T := TX11) (N := 21) X hW (by omega) hO rfl lk_0 3 (by decide) lk_3 rfl dX11_book_105 ?_
                      refine x_bipush X (by decide) dX11_book_108 ?_
                      refine lv_iload_n X.1 X.2.1 dX11_book_110 rfl (lv_at hl 1 rfl) ?_
                      refine x_imul X dX11_book_111 ?_
                      refine lv_iload X.1 X.2.1 dX11_book_112 (lv_at hl 5 rfl) ?_
                      refine x_iadd X dX11_book_114 ?_
                      refine x_lald X hW (by omega) h4 (v := lI ((nm z.toNat) (c + 1))) (40 * z.toNat + (c + 1)) (by omega) (by omega) (by decide) (((hvz.2.2 (by omega)).2.2 (c + 1) (by omega)).2) dX11_book_115 ?_
                      refine lv_lstore (lv' := [(7, .long (lI ((nm z.toNat) (c + 1)))), (0, .ref (A (i))), (1, .int (iI (z))), (2, .int (iI ((rl z.toNat)))), (3, .long (lI ((nm z.toNat) 0))), (5, .int (iI (((al : Nat) : Int)))), (6, .int (iI (((c + 1 : Nat) : Int))))]) X.1 X.2.1 dX11_book_116 hl (by decide) rfl (fun ls hl => ?_)
                      refine lv_lload X.1 X.2.1 dX11_book_118 (lv_at hl 0 rfl) ?_
                      refine x_lconst X 0 (by decide) dX11_book_120 ?_
                      refine x_lcmp_lt (tgt := 134) X hnv ⟨by decide, by decide⟩ dX11_book_121 dX11_book_122 (by decide) (fun b_121 => ?_) (fun b_121 => ?_)
                      · have hR0 := hR1 _ (rd_fail hln hM (by omega) (by omega) hok (by omega) (e := -4) (by unfold rdz; rw [if_pos (by omega), Int.toNat_natCast, if_neg (by omega)]) (by decide)) (by decide)
                        refine x_bipush X (by decide) dX11_book_134 ?_
                        exact x_iret X hr hlk hW (⟨by rw [hR0], fun h => by rw [hR0] at h; omega, fun _ => ⟨hO, _, _, _, _, h5, h6, h7, h8, hbk, fun b hb => by
        obtain ⟨c1, c2, c3, c4, c5⟩ := hbv b hb
        exact ⟨c1, c2, c3, c4, fun k hk => by rw [(o6 _ (by omega)).1, (o6 _ (by omega)).2]; exact c5 k hk⟩⟩, fun j hj => hfr j (by omega)⟩) dX11_book_136
                      · refine lv_lload X.1 X.2.1 dX11_book_125 (lv_at hl 0 rfl) ?_
                        refine x_ldc2 X (1000) (by decide) lk_8 dX11_book_127 ?_
                        refine x_lcmp_le (tgt := 137) X hnv ⟨by decide, by decide⟩ dX11_book_130 dX11_book_131 (by decide) (fun b_130 => ?_) (fun b_130 => ?_)
                        · have hok1 : ∀ m, 1 ≤ m → m ≤ c + 1 → rOK (nm z.toNat) (rl z.toNat) m := fun m a9 b9 => if em : m = c + 1 then (by rw [em]; exact ⟨by omega, by omega, by omega⟩) else hok m a9 (by omega)
                          refine x_bipush X (by decide) dX11_book_137 ?_
                          refine lv_aload_n X.1 X.2.1 dX11_book_139 rfl (lv_at hl 1 rfl) ?_
                          refine x_get (C := RX11) (T := TX11) (N := 21) X hW (by omega) hO rfl lk_0 4 (by decide) lk_1 rfl dX11_book_140 ?_
                          refine x_seti ((bk : Int)) hq0 ?_
                          refine x_imul X dX11_book_143 ?_
                          refine lv_iload X.1 X.2.1 dX11_book_144 (lv_at hl 6 rfl) ?_
                          refine x_iconst X dX11_book_146 ?_
                          refine x_isub X dX11_book_147 ?_
                          refine x_iconst X dX11_book_148 ?_
                          refine x_idiv X ⟨by omega, by omega⟩ ⟨by decide, by decide⟩ (by omega) (by decide) dX11_book_149 ?_
                          refine x_seti (((c / 2 : Nat) : Int)) (by omega) ?_
                          refine x_iadd X dX11_book_150 ?_
                          refine x_seti (((8 * bk + c / 2 : Nat) : Int)) (by omega) ?_
                          refine lv_istore (lv' := [(9, .int (iI (((8 * bk + c / 2 : Nat) : Int)))), (7, .long (lI ((nm z.toNat) (c + 1)))), (0, .ref (A (i))), (1, .int (iI (z))), (2, .int (iI ((rl z.toNat)))), (3, .long (lI ((nm z.toNat) 0))), (5, .int (iI (((al : Nat) : Int)))), (6, .int (iI (((c + 1 : Nat) : Int))))]) X.1 X.2.1 dX11_book_151 hl (by decide) rfl (fun ls hl => ?_)
                          refine lv_iload X.1 X.2.1 dX11_book_153 (lv_at hl 7 rfl) ?_
                          refine x_iconst X dX11_book_155 ?_
                          refine x_irem X ⟨by omega, by omega⟩ ⟨by decide, by decide⟩ (by omega) (by decide) dX11_book_156 ?_
                          refine x_seti ((((c + 1) % 2 : Nat) : Int)) (by omega) ?_
                          refine x_iconst X dX11_book_157 ?_
                          refine x_icmp_ne (tgt := 174) X ⟨by omega, by omega⟩ ⟨by decide, by decide⟩ dX11_book_158 (by decide) (fun b_158 => ?_) (fun b_158 => ?_)
                          · refine lv_aload_n X.1 X.2.1 dX11_book_174 rfl (lv_at hl 2 rfl) ?_
                            refine x_get (C := RX11) (T := TX11) (N := 21) X hW (by omega) hO rfl lk_0 7 (by decide) lk_9 rfl dX11_book_175 ?_
                            refine lv_iload X.1 X.2.1 dX11_book_178 (lv_at hl 0 rfl) ?_
                            refine lv_lload X.1 X.2.1 dX11_book_180 (lv_at hl 1 rfl) ?_
                            refine x_l2i X dX11_book_182 ?_
                            refine x_iast X hW (by omega) h7 (8 * bk + c / 2) (by omega) (by omega) (by decide) dX11_book_183 (fun g_183 H locs hg_183 hW => ?_)
                            have hO : g_183 i = .inr (11, [.ref (A (i + 1)), .ref (A (i + 2)), .ref (A (i + 3)), .ref (A (i + 4)), .int (iI (q 0)), .ref (A (i + 5)), .ref (A (i + 6)), .ref (A (i + 7)), .ref (A (i + 8)), .int (iI (q 1)), .ref (A (i + 9)), .ref (A (i + 10)), .ref (A (i + 11)), .int (iI (q 2)), .ref (A (i + 12)), .ref (A (i + 13)), .int (iI (q 3)), .ref (A (i + 14)), .ref (A (i + 15)), .ref (A (i + 16)), .int (iI (q 4))]) := by rw [hg_183, va_up_ne _ _ (by omega)]; exact hO
                            have h2 : g_183 (i + 2) = aI E 10 fe := by rw [hg_183, va_up_ne _ _ (by omega)]; exact h2
                            have h4 : g_183 (i + 4) = aJ E 400 fn := by rw [hg_183, va_up_ne _ _ (by omega)]; exact h4
                            have h5 : g_183 (i + 5) = aI E 16 f5 := by rw [hg_183, va_up_ne _ _ (by omega)]; exact h5
                            have h6 : g_183 (i + 6) = aI E 128 a6 := by rw [hg_183, va_up_ne _ _ (by omega)]; exact h6
                            have h8 : g_183 (i + 8) = aI E 16 f8 := by rw [hg_183, va_up_ne _ _ (by omega)]; exact h8
                            have h7 : g_183 (i + 7) = aI E 128 (upd a7 (8 * bk + c / 2) (iI ((nm z.toNat) (c + 1)))) := by rw [hg_183]; exact va_up_self _ _ _
                            refine lv_iload X.1 X.2.1 dX11_book_184 (lv_at hl 6 rfl) ?_
                            refine lv_lload X.1 X.2.1 dX11_book_186 (lv_at hl 1 rfl) ?_
                            refine x_l2i X dX11_book_188 ?_
                            refine x_iadd X dX11_book_189 ?_
                            refine x_seti (((al + ((nm z.toNat) (c + 1)).toNat : Nat) : Int)) (by omega) ?_
                            refine lv_istore (lv' := [(5, .int (iI (((al + ((nm z.toNat) (c + 1)).toNat : Nat) : Int)))), (9, .int (iI (((8 * bk + c / 2 : Nat) : Int)))), (7, .long (lI ((nm z.toNat) (c + 1)))), (0, .ref (A (i))), (1, .int (iI (z))), (2, .int (iI ((rl z.toNat)))), (3, .long (lI ((nm z.toNat) 0))), (6, .int (iI (((c + 1 : Nat) : Int))))]) X.1 X.2.1 dX11_book_190 hl (by decide) rfl (fun ls hl => ?_)
                            refine lv_iinc (v := iI (((c + 1 + 1 : Nat) : Int))) (lv' := [(6, .int (iI (((c + 1 + 1 : Nat) : Int)))), (5, .int (iI (((al + ((nm z.toNat) (c + 1)).toNat : Nat) : Int)))), (9, .int (iI (((8 * bk + c / 2 : Nat) : Int)))), (7, .long (lI ((nm z.toNat) (c + 1)))), (0, .ref (A (i))), (1, .int (iI (z))), (2, .int (iI ((rl z.toNat)))), (3, .long (lI ((nm z.toNat) 0)))]) X.1 X.2.1 dX11_book_192 hl (k := 7) rfl (by rw [show (Int32.ofInt (1)) = iI (1) from rfl, iI_add]; rfl) (by decide) rfl (fun ls hl => ?_)
                            refine lv_goto (tgt := 83) X.1 X.2.1 dX11_book_195 (by decide) ?_
                            exact ih_83 (c + 1) (al + ((nm z.toNat) (c + 1)).toNat) _ _ g_183 _ _ _ (by omega) (by omega) (by rw [show (c + 1) / 2 = c / 2 + 1 from by omega]; show _ = bE (rdL (nm z.toNat) (c / 2) ++ [_]) _; rw [bE_app, Nat.mul_one, ← hal, show 2 * (c / 2) + 2 = c + 1 from by omega]) hok1 h6 h7 (fun k h => hw6 k (by omega)) (fun k h => if ek : k = c / 2 then (by rw [ek, upd_s]; congr 2; omega) else (by rw [upd_n (by omega)]; exact hw7 k (by omega))) (fun j hj => by rw [upd_n (by omega)]; exact o6 j hj) (by omega) (fun j hj => by rw [hg_183, va_up_ne _ _ (by omega)]; exact hfr j hj) hW (lv_sub hl [4, 5, 6, 7, 1, 0] rfl)
                          · refine lv_aload_n X.1 X.2.1 dX11_book_161 rfl (lv_at hl 2 rfl) ?_
                            refine x_get (C := RX11) (T := TX11) (N := 21) X hW (by omega) hO rfl lk_0 6 (by decide) lk_10 rfl dX11_book_162 ?_
                            refine lv_iload X.1 X.2.1 dX11_book_165 (lv_at hl 0 rfl) ?_
                            refine lv_lload X.1 X.2.1 dX11_book_167 (lv_at hl 1 rfl) ?_
                            refine x_l2i X dX11_book_169 ?_
                            refine x_iast X hW (by omega) h6 (8 * bk + c / 2) (by omega) (by omega) (by decide) dX11_book_170 (fun g_170 H locs hg_170 hW => ?_)
                            have hO : g_170 i = .inr (11, [.ref (A (i + 1)), .ref (A (i + 2)), .ref (A (i + 3)), .ref (A (i + 4)), .int (iI (q 0)), .ref (A (i + 5)), .ref (A (i + 6)), .ref (A (i + 7)), .ref (A (i + 8)), .int (iI (q 1)), .ref (A (i + 9)), .ref (A (i + 10)), .ref (A (i + 11)), .int (iI (q 2)), .ref (A (i + 12)), .ref (A (i + 13)), .int (iI (q 3)), .ref (A (i + 14)), .ref (A (i + 15)), .ref (A (i + 16)), .int (iI (q 4))]) := by rw [hg_170, va_up_ne _ _ (by omega)]; exact hO
                            have h2 : g_170 (i + 2) = aI E 10 fe := by rw [hg_170, va_up_ne _ _ (by omega)]; exact h2
                            have h4 : g_170 (i + 4) = aJ E 400 fn := by rw [hg_170, va_up_ne _ _ (by omega)]; exact h4
                            have h5 : g_170 (i + 5) = aI E 16 f5 := by rw [hg_170, va_up_ne _ _ (by omega)]; exact h5
                            have h7 : g_170 (i + 7) = aI E 128 a7 := by rw [hg_170, va_up_ne _ _ (by omega)]; exact h7
                            have h8 : g_170 (i + 8) = aI E 16 f8 := by rw [hg_170, va_up_ne _ _ (by omega)]; exact h8
                            have h6 : g_170 (i + 6) = aI E 128 (upd a6 (8 * bk + c / 2) (iI ((nm z.toNat) (c + 1)))) := by rw [hg_170]; exact va_up_self _ _ _
                            refine lv_goto (tgt := 192) X.1 X.2.1 dX11_book_171 (by decide) ?_
                            refine lv_iinc (v := iI (((c + 1 + 1 : Nat) : Int))) (lv' := [(6, .int (iI (((c + 1 + 1 : Nat) : Int)))), (9, .int (iI (((8 * bk + c / 2 : Nat) : Int)))), (7, .long (lI ((nm z.toNat) (c + 1)))), (0, .ref (A (i))), (1, .int (iI (z))), (2, .int (iI ((rl z.toNat)))), (3, .long (lI ((nm z.toNat) 0))), (5, .int (iI (((al : Nat) : Int))))]) X.1 X.2.1 dX11_book_192 hl (k := 7) rfl (by rw [show (Int32.ofInt (1)) = iI (1) from rfl, iI_add]; rfl) (by decide) rfl (fun ls hl => ?_)
                            refine lv_goto (tgt := 83) X.1 X.2.1 dX11_book_195 (by decide) ?_
                            exact ih_83 (c + 1) al _ _ g_170 _ _ _ (by omega) (by omega) (by rw [show (c + 1) / 2 = c / 2 from by omega]; exact hal) hok1 h6 h7 (fun k h => if ek : k = c / 2 then (by rw [ek, upd_s]; congr 2; omega) else (by rw [upd_n (by omega)]; exact hw6 k (by omega))) (fun k h => hw7 k (by omega)) (fun j hj => by rw [upd_n (by omega)]; exact o6 j hj) (by omega) (fun j hj => by rw [hg_170, va_up_ne _ _ (by omega)]; exact hfr j hj) hW (lv_sub hl [3, 4, 5, 6, 7, 0] rfl)
                        · have hR0 := hR1 _ (rd_fail hln hM (by omega) (by omega) hok (by omega) (e := -4) (by unfold rdz; rw [if_pos (by omega), Int.toNat_natCast, if_neg (by omega)]) (by decide)) (by decide)
                          refine x_bipush X (by decide) dX11_book_134 ?_
                          exact x_iret X hr hlk hW (⟨by rw [hR0], fun h => by rw [hR0] at h; omega, fun _ => ⟨hO, _, _, _, _, h5, h6, h7, h8, hbk, fun b hb => by
        obtain ⟨c1, c2, c3, c4, c5⟩ := hbv b hb
        exact ⟨c1, c2, c3, c4, fun k hk => by rw [(o6 _ (by omega)).1, (o6 _ (by omega)).2]; exact c5 k hk⟩⟩, fun j hj => hfr j (by omega)⟩) dX11_book_136
                    · have hR0 := hR1 _ (rd_fail hln hM (by omega) (by omega) hok (by omega) (e := -6) (by unfold rdz; rw [if_neg (by omega)]) (by decide)) (by decide)
                      refine x_bipush X (by decide) dX11_book_101 ?_
                      exact x_iret X hr hlk hW (⟨by rw [hR0], fun h => by rw [hR0] at h; omega, fun _ => ⟨hO, _, _, _, _, h5, h6, h7, h8, hbk, fun b hb => by
        obtain ⟨c1, c2, c3, c4, c5⟩ := hbv b hb
        exact ⟨c1, c2, c3, c4, fun k hk => by rw [(o6 _ (by omega)).1, (o6 _ (by omega)).2]; exact c5 k hk⟩⟩, fun j hj => hfr j (by omega)⟩) dX11_book_103
              exact loop_83 _ 0 0 f6 f7 g _ _ _ (Nat.lt_succ_self _) (Nat.zero_le _) rfl (fun m a9 b9 => absurd a9 (by omega)) h6 h7 (fun k h => absurd h (by omega)) (fun k h => absurd h (by omega)) (fun _ _ => ⟨rfl, rfl⟩) (by omega) (fun _ _ => rfl) hW (lv_sub hl [4, 5, 3, 2, 1, 0] rfl)
            · have hR0 := hR1 _ (rd_many hln (Or.inr (by omega))) (by decide)
              refine x_bipush X (by decide) dX11_book_74 ?_
              exact x_iret X hr hlk hW (⟨by rw [hR0], fun h => by rw [hR0] at h; omega, fun _ => ⟨hO, hBo⟩, fun _ _ => rfl⟩) dX11_book_76
        · have hR0 := hR1 _ (rd_small (by omega)) (by decide)
          refine x_bipush X (by decide) dX11_book_47 ?_
          exact x_iret X hr hlk hW (⟨by rw [hR0], fun h => by rw [hR0] at h; omega, fun _ => ⟨hO, hBo⟩, fun _ _ => rfl⟩) dX11_book_49
      · have hR0 : bkR rl nm bk z = -5 := by unfold bkR; rw [if_pos hs, if_neg hbk15, if_pos (by omega)]
        refine x_bipush X (by decide) dX11_book_31 ?_
        exact x_iret X hr hlk hW (⟨by rw [hR0], fun h => by rw [hR0] at h; omega, fun _ => ⟨hO, hBo⟩, fun _ _ => rfl⟩) dX11_book_33
    · have hR0 : bkR rl nm bk z = -8 := by unfold bkR; rw [if_pos hs, if_pos (by omega)]
      refine x_bipush X (by decide) dX11_book_19 ?_
      exact x_iret X hr hlk hW (⟨by rw [hR0], fun h => by rw [hR0] at h; omega, fun _ => ⟨hO, hBo⟩, fun _ _ => rfl⟩) dX11_book_21
  · have hs : ¬ (0 ≤ z ∧ z ≤ 9) := fun h => by rw [if_pos h] at b_4; omega
    refine x_bipush X (by decide) dX11_book_7 ?_
    exact x_iret X hr hlk hW (⟨by unfold bkR; rw [if_neg hs], fun h => by unfold bkR at h; rw [if_neg hs] at h; omega, fun _ => ⟨hO, hBo⟩, fun _ _ => rfl⟩) dX11_book_9
