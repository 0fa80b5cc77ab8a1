/-! ===== the reference: the best rule ===== -/
theorem bMax_step {L : List (Nat × Nat)} {u : Nat} (h : u < L.length) (ya al no : Nat) : bMax (L.take (u + 1)) ya al no = bMax (L.take u) ya al no + (L.getD u (0, 0)).2 * (if no ≤ ya + al * (L.getD u (0, 0)).1 then ya + al * (L.getD u (0, 0)).1 else no) := bE_step L u h _
theorem cast_ma (a b c : Nat) : ((a : Nat) : Int) + ((b : Nat) : Int) * ((c : Nat) : Int) = ((a + c * b : Nat) : Int) := by
  rw [Int.natCast_add, Int.natCast_mul, Int.mul_comm (c : Int)]
theorem mx_yes {L : List (Nat × Nat)} {u : Nat} (h : u < L.length) {ya al no : Nat} (hc : no ≤ ya + al * (L.getD u (0, 0)).1) : ((bMax (L.take u) ya al no : Nat) : Int) + ((ya + al * (L.getD u (0, 0)).1 : Nat) : Int) * (((L.getD u (0, 0)).2 : Nat) : Int) = ((bMax (L.take (u + 1)) ya al no : Nat) : Int) := by
  rw [bMax_step h, if_pos hc]
  exact cast_ma _ _ _
theorem mx_no {L : List (Nat × Nat)} {u : Nat} (h : u < L.length) {ya al no : Nat} (hc : ya + al * (L.getD u (0, 0)).1 ≤ no) : ((bMax (L.take u) ya al no : Nat) : Int) + ((no : Nat) : Int) * (((L.getD u (0, 0)).2 : Nat) : Int) = ((bMax (L.take (u + 1)) ya al no : Nat) : Int) := by
  have e : (if no ≤ ya + al * (L.getD u (0, 0)).1 then ya + al * (L.getD u (0, 0)).1 else no) = no := by
    split
    · exact Nat.le_antisymm hc (by assumption)
    · rfl
  rw [bMax_step h, e]
  exact cast_ma _ _ _
theorem cmp_le {u w : Nat} (h : (if ((u : Nat) : Int) < ((w : Nat) : Int) then (-1 : Int) else if ((u : Nat) : Int) = ((w : Nat) : Int) then 0 else 1) ≤ 0) : u ≤ w := by
  by_cases e : ((u : Nat) : Int) < ((w : Nat) : Int)
  · omega
  · rw [if_neg e] at h
    by_cases e2 : ((u : Nat) : Int) = ((w : Nat) : Int)
    · omega
    · rw [if_neg e2] at h; exact absurd h (by decide)
theorem cmp_gt {u w : Nat} (h : ¬ (if ((u : Nat) : Int) < ((w : Nat) : Int) then (-1 : Int) else if ((u : Nat) : Int) = ((w : Nat) : Int) then 0 else 1) ≤ 0) : w < u := by
  by_cases e : ((u : Nat) : Int) < ((w : Nat) : Int)
  · rw [if_pos e] at h; exact absurd (by decide) h
  · rw [if_neg e] at h
    by_cases e2 : ((u : Nat) : Int) = ((w : Nat) : Int)
    · rw [if_pos e2] at h; exact absurd (by decide) h
    · omega
theorem cmp_rng (a b : Int) : I32 (if a < b then -1 else if a = b then 0 else 1) := by
  split
  · exact ⟨by decide, by decide⟩
  · split <;> exact ⟨by decide, by decide⟩
theorem bMax_cap {L : List (Nat × Nat)} (h : bOK L) {ya al no M : Nat} (h1 : no ≤ M) (h2 : ya + al * 1000 ≤ M) : bMax L ya al no ≤ M * 8000 := by
  rw [Nat.mul_comm]
  refine bE_cap h (fun x hx => ?_)
  have h4 : al * x ≤ al * 1000 := Nat.mul_le_mul_left _ hx
  split <;> omega
theorem chN_cap {cz K : Nat} {Lk : Nat → List (Nat × Nat)} (hB : ∀ k, k < cz → bOK (Lk k)) : ∀ d, d ≤ cz → ∀ y, chN Lk cz K d y ≤ d * 1000 * 8000 ^ d := by
  intro d
  induction d with
  | zero => intro _ y; exact Nat.zero_le _
  | succ d ih =>
    intro hd y
    by_cases h : 1 ≤ y ∧ y ≤ K
    · have e : chN Lk cz K (d + 1) y = bMax (Lk (cz - 1 - d)) (chN Lk cz K d (y - 1)) (foA Lk cz d) (chN Lk cz K d y) := by show (if _ then _ else _) = _; rw [if_pos h]
      have h1 := ih (by omega) y
      have h2 := ih (by omega) (y - 1)
      have h3 := foA_le (cz := cz) (fun k hk => bOK_tot (hB k hk)) d (by omega)
      have h4 : foA Lk cz d * 1000 ≤ 8000 ^ d * 1000 := Nat.mul_le_mul_right _ h3
      have h5 := bMax_cap (hB (cz - 1 - d) (by omega)) (ya := chN Lk cz K d (y - 1)) (al := foA Lk cz d) (no := chN Lk cz K d y) (M := d * 1000 * 8000 ^ d + 8000 ^ d * 1000) (by omega) (by omega)
      have e1 : (d + 1) * 1000 * 8000 ^ (d + 1) = (d * 1000 * 8000 ^ d + 8000 ^ d * 1000) * 8000 := by
        rw [Nat.pow_succ, ← Nat.mul_assoc, Nat.add_mul d 1 1000, Nat.add_mul, Nat.one_mul, Nat.mul_comm 1000 (8000 ^ d)]
      rw [e, e1]; exact h5
    · rw [chN_out h]; exact Nat.zero_le _
theorem chN_in {Lk : Nat → List (Nat × Nat)} {cz K d y : Nat} (h : 1 ≤ y ∧ y ≤ K) : chN Lk cz K (d + 1) y = bMax (Lk (cz - 1 - d)) (chN Lk cz K d (y - 1)) (foA Lk cz d) (chN Lk cz K d y) := by
  show (if _ then _ else _) = _
  rw [if_pos h]
theorem bMax_take (L : List (Nat × Nat)) {u : Nat} (h : u ≤ L.length) (ya al no : Nat) : bMax (L.take u) ya al no ≤ bMax L ya al no := bE_take_le L _ (L.length - u) u (by omega)
theorem LB_one {L : List (Nat × Nat)} {ya al no b c : Nat} (h1 : LB L ya al no b) (h2 : LB L ya al no c) : b = c := by
  have key : ∀ b c, LB L ya al no b → LB L ya al no c → ¬ b < c := by
    intro b c h1 h2 hlt
    rcases h2.2.2.1 with h | h
    · omega
    · have e1 := h2.1 (c - 1) h (by omega)
      have e2 := h1.2.1 (c - 1) h (by omega)
      omega
  have k1 := key b c h1 h2
  have k2 := key c b h2 h1
  omega

set_option maxHeartbeats 4000000 in
set_option maxRecDepth 100000 in
/-- bestFrom -/
theorem c_X11_bestFrom (l : Launch) (E : wE) (A : Nat → Nat) (n sz : Nat) (g : Nat → va_E) (i : Nat) (q : Nat → Int) (N : Nat → Int) (bk : Nat) (L : Nat → List (Nat × Nat)) (cz : Nat) (co br : Nat → Nat) (hi : i + 16 < n) (hO : g i = mO A i q) (hN : MN E A g i N) (hB : BooksM E A g i bk L) (hq1 : q 1 = (cz : Int)) (hC : ComM E A g i bk cz co br) : Met l yX11_bestFrom wsX11_bestFrom ({ frames := 4, cells := 0, slots := 0, locals := 160 } : Room) (va_Pc [.ref (A (i))] (wPre E A n sz g)) (va_Qv (fun g' => (∃ N' : Nat → Int, MN E A g' i N' ∧ (∀ e, e ≤ cz → N' (10 + (cz - e)) = ((chN (LkM L co) cz 1 e 1 : Nat) : Int) ∧ N' (30 + (cz - e)) = ((foA (LkM L co) cz e : Nat) : Int)) ∧ ∀ x, x < 2 → N' x = N x) ∧ ∀ j, j ≠ i + 1 → g' j = g j) (wAt E A n) (wF A n sz)) 0 0 (wF A n sz) := by
  refine x_met (cc := cX11_bestFrom) (maxL := 5) (ret := none) [.ref (A (i))] (by decide) rfl (Nat.le_of_ble_eq_true rfl) ?_
  intro p e s m below meth c ls X hr hlk hnm hsz hW hl
  have hl : lv_has ls 5 [(0, .ref (A (i)))] := hl
  have lk_0 : ∀ w ∈ wsX110, w ∈ wsX11_bestFrom := by decide +kernel
  have lk_1 : Cond.fieldLink RX11 127 (TX11 9).1 (TX11 9).2.1 (TX11 9).2.2.1 ∈ wsX11_bestFrom := by decide +kernel
  have lk_2 : Cond.fieldLink RX11 36 (TX11 10).1 (TX11 10).2.1 (TX11 10).2.2.1 ∈ wsX11_bestFrom := by decide +kernel
  have lk_3 : Cond.fieldLink RX11 24 (TX11 5).1 (TX11 5).2.1 (TX11 5).2.2.1 ∈ wsX11_bestFrom := by decide +kernel
  have lk_4 : Cond.fieldLink RX11 33 (TX11 8).1 (TX11 8).2.1 (TX11 8).2.2.1 ∈ wsX11_bestFrom := by decide +kernel
  have lk_5 : Cond.fieldLink RX11 27 (TX11 6).1 (TX11 6).2.1 (TX11 6).2.2.1 ∈ wsX11_bestFrom := by decide +kernel
  have lk_6 : Cond.fieldLink RX11 30 (TX11 7).1 (TX11 7).2.1 (TX11 7).2.2.1 ∈ wsX11_bestFrom := by decide +kernel
  have hO : g i = .inr (11, [.ref (A (i + 1)), .ref (A (i + 2)), .ref (A (i + 3)), .ref (A (i + 4)), .int (iI (q 0)), .ref (A (i + 5)), .ref (A (i + 6)), .ref (A (i + 7)), .ref (A (i + 8)), .int (iI (q 1)), .ref (A (i + 9)), .ref (A (i + 10)), .ref (A (i + 11)), .int (iI (q 2)), .ref (A (i + 12)), .ref (A (i + 13)), .int (iI (q 3)), .ref (A (i + 14)), .ref (A (i + 15)), .ref (A (i + 16)), .int (iI (q 4))]) := hO
  have hOg := hO
  have hfr : ∀ j, j ≠ i + 1 → g j = g j := fun _ _ => rfl
  have hoth : ∀ x, x < 2 → N x = N x := fun _ _ => rfl
  have hBo := hB
  obtain ⟨f5, f6, f7, f8, h5, h6, h7, h8, hbk, hbv⟩ := id hB
  have h5o := h5
  have h6o := h6
  have h7o := h7
  have h8o := h8
  have hCo := hC
  obtain ⟨f9, f10, h9, h10, hc10, hcv⟩ := id hC
  have h9o := h9
  have h10o := h10
  have hok0 : ∀ k, k < cz → bOK (LkM L co k) := fun k hk => by
    have hk2 := (hcv k hk).1
    exact ⟨(hbv _ hk2).1, fun u hu => ((hbv _ hk2).2.2.2.2 u hu).2.2⟩
  have hcap0 : ∀ k, k < cz → bE (LkM L co k) (fun _ => 1) ≤ 8000 ∧ (∀ b : Int, bBelow (LkM L co k) b ≤ 8000) ∧ ∀ b : Int, bGath (LkM L co k) b ≤ 8000000 := fun k hk => ⟨bOK_tot (hok0 k hk), fun b => bOK_below (hok0 k hk) b, fun b => bOK_gath (hok0 k hk) b⟩
  have hpos0 : ∀ k, k < cz → 0 < bE (LkM L co k) (fun _ => 1) := fun k hk => (hbv _ (hcv k hk).1).2.2.2.1
  refine lv_aload_n X.1 X.2.1 dX11_bestFrom_0 rfl (lv_at hl 0 rfl) ?_
  refine x_bipush X (by decide) dX11_bestFrom_1 ?_
  refine lv_aload_n X.1 X.2.1 dX11_bestFrom_3 rfl (lv_at hl 0 rfl) ?_
  refine x_get (C := RX11) (T := TX11) (N := 21) X hW (by omega) hO rfl lk_0 9 (by decide) lk_1 rfl dX11_bestFrom_4 ?_
  refine x_iadd X dX11_bestFrom_7 ?_
  refine x_seti (((10 + cz : Nat) : Int)) (by omega) ?_
  refine x_lconst X 0 (by decide) dX11_bestFrom_8 ?_
  refine x_cv (x_runV (k := 2) (As := [.int (iI (((10 + cz : Nat) : Int))), .long (lI (0))]) (rest := []) X hW (c_X11_set l E A n _ g i (10 + cz) q N (0) hi hO (by omega) hN (by decide) (by decide)) (by omega) hO rfl gX11_bestFrom_X11_set rfl rfl rfl (by decide +kernel) ⟨by decide, by decide⟩ rfl hl.1 rfl (Nat.le_of_ble_eq_true rfl) dX11_bestFrom_9 ⟨Nat.zero_le _, Nat.zero_le _⟩) hW (fun g_9 H locs hp_9 hW => ?_)
  obtain ⟨hN, hf_9⟩ := hp_9
  obtain ⟨N_9, hN_9⟩ : ∃ N9 : Nat → Int, N9 = va_up N (10 + cz) (0) := ⟨_, rfl⟩
  rw [← hN_9] at hN
  have hO : g_9 i = .inr (11, [.ref (A (i + 1)), .ref (A (i + 2)), .ref (A (i + 3)), .ref (A (i + 4)), .int (iI (q 0)), .ref (A (i + 5)), .ref (A (i + 6)), .ref (A (i + 7)), .ref (A (i + 8)), .int (iI (q 1)), .ref (A (i + 9)), .ref (A (i + 10)), .ref (A (i + 11)), .int (iI (q 2)), .ref (A (i + 12)), .ref (A (i + 13)), .int (iI (q 3)), .ref (A (i + 14)), .ref (A (i + 15)), .ref (A (i + 16)), .int (iI (q 4))]) := by rw [hf_9 _ (by omega)]; exact hO
  have h5 : g_9 (i + 5) = aI E 16 f5 := by rw [hf_9 _ (by omega)]; exact h5
  have h6 : g_9 (i + 6) = aI E 128 f6 := by rw [hf_9 _ (by omega)]; exact h6
  have h7 : g_9 (i + 7) = aI E 128 f7 := by rw [hf_9 _ (by omega)]; exact h7
  have h8 : g_9 (i + 8) = aI E 16 f8 := by rw [hf_9 _ (by omega)]; exact h8
  have h9 : g_9 (i + 9) = aI E 10 f9 := by rw [hf_9 _ (by omega)]; exact h9
  have h10 : g_9 (i + 10) = aI E 10 f10 := by rw [hf_9 _ (by omega)]; exact h10
  have v_10___cz : N_9 (10 + cz) = 0 := by rw [hN_9, va_up_self]
  have hoth : ∀ x, x < 2 → N_9 x = N x := fun x hx => (congrFun hN_9 x).trans ((va_up_ne _ _ (by omega)).trans (hoth x hx))
  have hfr : ∀ j, j ≠ i + 1 → g_9 j = g j := fun j hj => (hf_9 j hj).trans (hfr j hj)
  refine lv_aload_n X.1 X.2.1 dX11_bestFrom_12 rfl (lv_at hl 0 rfl) ?_
  refine x_bipush X (by decide) dX11_bestFrom_13 ?_
  refine lv_aload_n X.1 X.2.1 dX11_bestFrom_15 rfl (lv_at hl 0 rfl) ?_
  refine x_get (C := RX11) (T := TX11) (N := 21) X hW (by omega) hO rfl lk_0 9 (by decide) lk_1 rfl dX11_bestFrom_16 ?_
  refine x_iadd X dX11_bestFrom_19 ?_
  refine x_seti (((30 + cz : Nat) : Int)) (by omega) ?_
  refine x_lconst X 1 (by decide) dX11_bestFrom_20 ?_
  refine x_cv (x_runV (k := 2) (As := [.int (iI (((30 + cz : Nat) : Int))), .long (lI (1))]) (rest := []) X hW (c_X11_set l E A n _ g_9 i (30 + cz) q N_9 (1) hi hO (by omega) hN (by decide) (by decide)) (by omega) hO rfl gX11_bestFrom_X11_set rfl rfl rfl (by decide +kernel) ⟨by decide, by decide⟩ rfl hl.1 rfl (Nat.le_of_ble_eq_true rfl) dX11_bestFrom_21 ⟨Nat.zero_le _, Nat.zero_le _⟩) hW (fun g_21 H locs hp_21 hW => ?_)
  obtain ⟨hN, hf_21⟩ := hp_21
  obtain ⟨N_21, hN_21⟩ : ∃ N9 : Nat → Int, N9 = va_up N_9 (30 + cz) (1) := ⟨_, rfl⟩
  rw [← hN_21] at hN
  have hO : g_21 i = .inr (11, [.ref (A (i + 1)), .ref (A (i + 2)), .ref (A (i + 3)), .ref (A (i + 4)), .int (iI (q 0)), .ref (A (i + 5)), .ref (A (i + 6)), .ref (A (i + 7)), .ref (A (i + 8)), .int (iI (q 1)), .ref (A (i + 9)), .ref (A (i + 10)), .ref (A (i + 11)), .int (iI (q 2)), .ref (A (i + 12)), .ref (A (i + 13)), .int (iI (q 3)), .ref (A (i + 14)), .ref (A (i + 15)), .ref (A (i + 16)), .int (iI (q 4))]) := by rw [hf_21 _ (by omega)]; exact hO
  have h5 : g_21 (i + 5) = aI E 16 f5 := by rw [hf_21 _ (by omega)]; exact h5
  have h6 : g_21 (i + 6) = aI E 128 f6 := by rw [hf_21 _ (by omega)]; exact h6
  have h7 : g_21 (i + 7) = aI E 128 f7 := by rw [hf_21 _ (by omega)]; exact h7
  have h8 : g_21 (i + 8) = aI E 16 f8 := by rw [hf_21 _ (by omega)]; exact h8
  have h9 : g_21 (i + 9) = aI E 10 f9 := by rw [hf_21 _ (by omega)]; exact h9
  have h10 : g_21 (i + 10) = aI E 10 f10 := by rw [hf_21 _ (by omega)]; exact h10
  have v_30___cz : N_21 (30 + cz) = 1 := by rw [hN_21, va_up_self]
  have v_10___cz : N_21 (10 + cz) = 0 := by rw [hN_21, va_up_ne _ _ (by omega)]; exact v_10___cz
  have hoth : ∀ x, x < 2 → N_21 x = N x := fun x hx => (congrFun hN_21 x).trans ((va_up_ne _ _ (by omega)).trans (hoth x hx))
  have hfr : ∀ j, j ≠ i + 1 → g_21 j = g j := fun j hj => (hf_21 j hj).trans (hfr j hj)
  refine lv_aload_n X.1 X.2.1 dX11_bestFrom_24 rfl (lv_at hl 0 rfl) ?_
  refine x_get (C := RX11) (T := TX11) (N := 21) X hW (by omega) hO rfl lk_0 9 (by decide) lk_1 rfl dX11_bestFrom_25 ?_
  refine x_seti ((cz : Int)) hq1 ?_
  refine x_iconst X dX11_bestFrom_28 ?_
  refine x_isub X dX11_bestFrom_29 ?_
  refine x_seti ((cz : Int) - 1 - ((0 : Nat) : Int)) (by omega) ?_
  refine lv_istore_n (lv' := [(1, .int (iI ((cz : Int) - 1 - ((0 : Nat) : Int)))), (0, .ref (A (i)))]) X.1 X.2.1 dX11_bestFrom_30 rfl hl (by decide) rfl (fun ls hl => ?_)
  have loop_31 : ∀ (fuel : Nat) (d : Nat) (N1 : Nat → Int) (g1 : Nat → va_E) (H : Heap) (locs : List Loc) (ls : Array Slot), (cz - d) < fuel → (d ≤ cz) → (MN E A g1 i N1) → (∀ e, e ≤ d → N1 (10 + (cz - e)) = ((chN (LkM L co) cz 1 e 1 : Nat) : Int) ∧ N1 (30 + (cz - e)) = ((foA (LkM L co) cz e : Nat) : Int)) → (∀ x, x < 2 → N1 x = N x) → (∀ j, j ≠ i + 1 → g1 j = g j) → wH E (wF A n sz) A n s g1 H locs → lv_has ls 5 [(0, .ref (A (i))), (1, .int (iI ((cz : Int) - 1 - (d : Int))))] → W p l e ({ frames := 4, cells := 0, slots := 0, locals := 160 } : Room) s m [.ref (A (i))].toArray below meth c H locs 0 0 (MQ below (va_Qv (fun g' => (∃ N' : Nat → Int, MN E A g' i N' ∧ (∀ e, e ≤ cz → N' (10 + (cz - e)) = ((chN (LkM L co) cz 1 e 1 : Nat) : Int) ∧ N' (30 + (cz - e)) = ((foA (LkM L co) cz e : Nat) : Int)) ∧ ∀ x, x < 2 → N' x = N x) ∧ ∀ j, j ≠ i + 1 → g' j = g j) (wAt E A n) (wF A n sz)) [.ref (A (i))].toArray s 0 0 (wF A n sz)) (F0 m 31 ls []) := by
    intro fuel
    induction fuel with
    | zero => intro d N1 g1 H locs ls hm; exact absurd hm (Nat.not_lt_zero _)
    | succ fuel ih_31 =>
      intro d N1 g1 H locs ls hm hd hN hT hoth hfr hW hl
      have hO : g1 i = .inr (11, [.ref (A (i + 1)), .ref (A (i + 2)), .ref (A (i + 3)), .ref (A (i + 4)), .int (iI (q 0)), .ref (A (i + 5)), .ref (A (i + 6)), .ref (A (i + 7)), .ref (A (i + 8)), .int (iI (q 1)), .ref (A (i + 9)), .ref (A (i + 10)), .ref (A (i + 11)), .int (iI (q 2)), .ref (A (i + 12)), .ref (A (i + 13)), .int (iI (q 3)), .ref (A (i + 14)), .ref (A (i + 15)), .ref (A (i + 16)), .int (iI (q 4))]) := (hfr _ (by omega)).trans hOg
      have h5 : g1 (i + 5) = aI E 16 f5 := (hfr _ (by omega)).trans h5o
      have h6 : g1 (i + 6) = aI E 128 f6 := (hfr _ (by omega)).trans h6o
      have h7 : g1 (i + 7) = aI E 128 f7 := (hfr _ (by omega)).trans h7o
      have h8 : g1 (i + 8) = aI E 16 f8 := (hfr _ (by omega)).trans h8o
      have h9 : g1 (i + 9) = aI E 10 f9 := (hfr _ (by omega)).trans h9o
      have h10 : g1 (i + 10) = aI E 10 f10 := (hfr _ (by omega)).trans h10o
      refine lv_iload_n X.1 X.2.1 dX11_bestFrom_31 rfl (lv_at hl 1 rfl) ?_
      refine x_if_lt (tgt := 187) X ⟨by omega, by omega⟩ dX11_bestFrom_32 (by decide) (fun b_32 => ?_) (fun b_32 => ?_)
      · rw [show d = cz from by omega] at hT
        exact x_vret X hr hlk hW (⟨⟨N1, hN, hT, hoth⟩, hfr⟩) dX11_bestFrom_187
      · obtain ⟨t, ht⟩ : ∃ t, cz = t + 1 + d := ⟨cz - 1 - d, by omega⟩
        have et : cz - 1 - d = t := by omega
        obtain ⟨hc1, hc2, hc3, hc4⟩ := hcv t (by omega)
        obtain ⟨hb1, hb5, hb8, hb9, hbq⟩ := hbv (co t) hc1
        have hAs : foA (LkM L co) cz (d + 1) = foA (LkM L co) cz d * bE (L (co t)) (fun _ => 1) := by
          show foA (LkM L co) cz d * bE (L (co (cz - 1 - d))) (fun _ => 1) = _
          rw [et]
        have hA1 := foA_le (fun k hk => (hcap0 k hk).1) (d + 1) (by omega)
        have hA2 := foA_le (fun k hk => (hcap0 k hk).1) d (by omega)
        have hpc := pow_cap (d := d + 1) (by omega)
        have hpc2 := pow_cap (d := d) (by omega)
        have ht8 : bE (L (co t)) (fun _ => 1) ≤ 8000 := (hcap0 t (by omega)).1
        obtain ⟨hT1, hT2⟩ := hT d (Nat.le_refl _)
        have v_11___t : N1 (11 + t) = ((chN (LkM L co) cz 1 d 1 : Nat) : Int) := by rw [← hT1, show 10 + (cz - d) = 11 + t from by omega]
        have v_31___t : N1 (31 + t) = ((foA (LkM L co) cz d : Nat) : Int) := by rw [← hT2, show 30 + (cz - d) = 31 + t from by omega]
        have w_11 := v_11___t
        have w_31 := v_31___t
        have hMs : chN (LkM L co) cz 1 (d + 1) 1 = bMax (L (co t)) (0) (foA (LkM L co) cz d) (chN (LkM L co) cz 1 d 1) := by
          rw [chN_in ⟨by decide, by decide⟩, et, chN_out (y := 1 - 1) (by decide)]; rfl
        have hM1 := chN_cap (K := 1) hok0 (d + 1) (by omega) 1
        have hotI : ∀ x, (x ≠ 2 ∧ x ≠ 10 + t ∧ x ≠ 30 + t) → N1 x = N1 x := fun _ _ => rfl
        refine lv_aload_n X.1 X.2.1 dX11_bestFrom_35 rfl (lv_at hl 0 rfl) ?_
        refine x_get (C := RX11) (T := TX11) (N := 21) X hW (by omega) hO rfl lk_0 10 (by decide) lk_2 rfl dX11_bestFrom_36 ?_
        refine lv_iload_n X.1 X.2.1 dX11_bestFrom_39 rfl (lv_at hl 1 rfl) ?_
        refine x_iald X hW (by omega) h9 (v := iI (((co t : Nat) : Int))) t (by omega) (by omega) (by decide) hc3 dX11_bestFrom_40 ?_
        refine lv_istore_n (lv' := [(2, .int (iI (((co t : Nat) : Int)))), (0, .ref (A (i))), (1, .int (iI ((cz : Int) - 1 - (d : Int))))]) X.1 X.2.1 dX11_bestFrom_41 rfl hl (by decide) rfl (fun ls hl => ?_)
        refine lv_aload_n X.1 X.2.1 dX11_bestFrom_42 rfl (lv_at hl 1 rfl) ?_
        refine x_bipush X (by decide) dX11_bestFrom_43 ?_
        refine lv_iload_n X.1 X.2.1 dX11_bestFrom_45 rfl (lv_at hl 2 rfl) ?_
        refine x_iadd X dX11_bestFrom_46 ?_
        refine x_seti (((10 + t : Nat) : Int)) (by omega) ?_
        refine x_lconst X 0 (by decide) dX11_bestFrom_47 ?_
        refine x_cv (x_runV (k := 2) (As := [.int (iI (((10 + t : Nat) : Int))), .long (lI (0))]) (rest := []) X hW (c_X11_set l E A n _ g1 i (10 + t) q N1 (0) hi hO (by omega) hN (by decide) (by decide)) (by omega) hO rfl gX11_bestFrom_X11_set rfl rfl rfl (by decide +kernel) ⟨by decide, by decide⟩ rfl hl.1 rfl (Nat.le_of_ble_eq_true rfl) dX11_bestFrom_48 ⟨Nat.zero_le _, Nat.zero_le _⟩) hW (fun g_48 H locs hp_48 hW => ?_)
        obtain ⟨hN, hf_48⟩ := hp_48
        obtain ⟨N_48, hN_48⟩ : ∃ N9 : Nat → Int, N9 = va_up N1 (10 + t) (0) := ⟨_, rfl⟩
        rw [← hN_48] at hN
        have hO : g_48 i = .inr (11, [.ref (A (i + 1)), .ref (A (i + 2)), .ref (A (i + 3)), .ref (A (i + 4)), .int (iI (q 0)), .ref (A (i + 5)), .ref (A (i + 6)), .ref (A (i + 7)), .ref (A (i + 8)), .int (iI (q 1)), .ref (A (i + 9)), .ref (A (i + 10)), .ref (A (i + 11)), .int (iI (q 2)), .ref (A (i + 12)), .ref (A (i + 13)), .int (iI (q 3)), .ref (A (i + 14)), .ref (A (i + 15)), .ref (A (i + 16)), .int (iI (q 4))]) := by rw [hf_48 _ (by omega)]; exact hO
        have h5 : g_48 (i + 5) = aI E 16 f5 := by rw [hf_48 _ (by omega)]; exact h5
        have h6 : g_48 (i + 6) = aI E 128 f6 := by rw [hf_48 _ (by omega)]; exact h6
        have h7 : g_48 (i + 7) = aI E 128 f7 := by rw [hf_48 _ (by omega)]; exact h7
        have h8 : g_48 (i + 8) = aI E 16 f8 := by rw [hf_48 _ (by omega)]; exact h8
        have h9 : g_48 (i + 9) = aI E 10 f9 := by rw [hf_48 _ (by omega)]; exact h9
        have h10 : g_48 (i + 10) = aI E 10 f10 := by rw [hf_48 _ (by omega)]; exact h10
        have v_10___t : N_48 (10 + t) = 0 := by rw [hN_48, va_up_self]
        have v_11___t : N_48 (11 + t) = ((chN (LkM L co) cz 1 d 1 : Nat) : Int) := by rw [hN_48, va_up_ne _ _ (by omega)]; exact v_11___t
        have v_31___t : N_48 (31 + t) = ((foA (LkM L co) cz d : Nat) : Int) := by rw [hN_48, va_up_ne _ _ (by omega)]; exact v_31___t
        have hoth : ∀ x, x < 2 → N_48 x = N x := fun x hx => (congrFun hN_48 x).trans ((va_up_ne _ _ (by omega)).trans (hoth x hx))
        have hotI : ∀ x, (x ≠ 2 ∧ x ≠ 10 + t ∧ x ≠ 30 + t) → N_48 x = N1 x := fun x hx => (congrFun hN_48 x).trans ((va_up_ne _ _ (by omega)).trans (hotI x hx))
        have hfr : ∀ j, j ≠ i + 1 → g_48 j = g j := fun j hj => (hf_48 j hj).trans (hfr j hj)
        refine x_bipush X (by decide) dX11_bestFrom_51 ?_
        refine lv_iload_n X.1 X.2.1 dX11_bestFrom_53 rfl (lv_at hl 0 rfl) ?_
        refine x_imul X dX11_bestFrom_54 ?_
        refine x_seti (((8 * co t + 0 : Nat) : Int)) (by omega) ?_
        refine lv_istore_n (lv' := [(3, .int (iI (((8 * co t + 0 : Nat) : Int)))), (2, .int (iI (((co t : Nat) : Int)))), (0, .ref (A (i))), (1, .int (iI ((cz : Int) - 1 - (d : Int))))]) X.1 X.2.1 dX11_bestFrom_55 rfl hl (by decide) rfl (fun ls hl => ?_)
        have loop_56 : ∀ (fuel : Nat) (u : Nat) (N2 : Nat → Int) (g2 : Nat → va_E) (H : Heap) (locs : List Loc) (ls : Array Slot), ((L (co t)).length - u) < fuel → (u ≤ (L (co t)).length) → (MN E A g2 i N2) → (N2 (10 + t) = ((bMax ((L (co t)).take u) (0) (foA (LkM L co) cz d) (chN (LkM L co) cz 1 d 1) : Nat) : Int)) → (∀ x, (x ≠ 2 ∧ x ≠ 10 + t ∧ x ≠ 30 + t) → N2 x = N1 x) → (∀ x, x < 2 → N2 x = N x) → (∀ j, j ≠ i + 1 → g2 j = g j) → wH E (wF A n sz) A n s g2 H locs → lv_has ls 5 [(0, .ref (A (i))), (1, .int (iI ((cz : Int) - 1 - (d : Int)))), (2, .int (iI (((co t : Nat) : Int)))), (3, .int (iI (((8 * co t + u : Nat) : Int))))] → W p l e ({ frames := 4, cells := 0, slots := 0, locals := 160 } : Room) s m [.ref (A (i))].toArray below meth c H locs 0 0 (MQ below (va_Qv (fun g' => (∃ N' : Nat → Int, MN E A g' i N' ∧ (∀ e, e ≤ cz → N' (10 + (cz - e)) = ((chN (LkM L co) cz 1 e 1 : Nat) : Int) ∧ N' (30 + (cz - e)) = ((foA (LkM L co) cz e : Nat) : Int)) ∧ ∀ x, x < 2 → N' x = N x) ∧ ∀ j, j ≠ i + 1 → g' j = g j) (wAt E A n) (wF A n sz)) [.ref (A (i))].toArray s 0 0 (wF A n sz)) (F0 m 56 ls []) := by
          intro fuel
          induction fuel with
          | zero => intro u N2 g2 H locs ls hm; exact absurd hm (Nat.not_lt_zero _)
          | succ fuel ih_56 =>
            intro u N2 g2 H locs ls hm hu hN v_10___t hotI hoth hfr hW hl
            have hO : g2 i = .inr (11, [.ref (A (i + 1)), .ref (A (i + 2)), .ref (A (i + 3)), .ref (A (i + 4)), .int (iI (q 0)), .ref (A (i + 5)), .ref (A (i + 6)), .ref (A (i + 7)), .ref (A (i + 8)), .int (iI (q 1)), .ref (A (i + 9)), .ref (A (i + 10)), .ref (A (i + 11)), .int (iI (q 2)), .ref (A (i + 12)), .ref (A (i + 13)), .int (iI (q 3)), .ref (A (i + 14)), .ref (A (i + 15)), .ref (A (i + 16)), .int (iI (q 4))]) := (hfr _ (by omega)).trans hOg
            have h5 : g2 (i + 5) = aI E 16 f5 := (hfr _ (by omega)).trans h5o
            have h6 : g2 (i + 6) = aI E 128 f6 := (hfr _ (by omega)).trans h6o
            have h7 : g2 (i + 7) = aI E 128 f7 := (hfr _ (by omega)).trans h7o
            have h8 : g2 (i + 8) = aI E 16 f8 := (hfr _ (by omega)).trans h8o
            have h9 : g2 (i + 9) = aI E 10 f9 := (hfr _ (by omega)).trans h9o
            have h10 : g2 (i + 10) = aI E 10 f10 := (hfr _ (by omega)).trans h10o
            have v_11___t := (hotI (11 + t) (by omega)).trans w_11
            have v_31___t := (hotI (31 + t) (by omega)).trans w_31
            refine lv_iload_n X.1 X.2.1 dX11_bestFrom_56 rfl (lv_at hl 3 rfl) ?_
            refine x_bipush X (by decide) dX11_bestFrom_57 ?_
            refine lv_iload_n X.1 X.2.1 dX11_bestFrom_59 rfl (lv_at hl 2 rfl) ?_
            refine x_imul X dX11_bestFrom_60 ?_
            refine lv_aload_n X.1 X.2.1 dX11_bestFrom_61 rfl (lv_at hl 0 rfl) ?_
            refine x_get (C := RX11) (T := TX11) (N := 21) X hW (by omega) hO rfl lk_0 5 (by decide) lk_3 rfl dX11_bestFrom_62 ?_
            refine lv_iload_n X.1 X.2.1 dX11_bestFrom_65 rfl (lv_at hl 2 rfl) ?_
            refine x_iald X hW (by omega) h5 (v := iI ((((L (co t)).length : Nat) : Int))) (co t) (by omega) (by omega) (by decide) hb5 dX11_bestFrom_66 ?_
            refine x_iadd X dX11_bestFrom_67 ?_
            refine x_icmp_ge (tgt := 152) X ⟨by omega, by omega⟩ ⟨by omega, by omega⟩ dX11_bestFrom_68 (by decide) (fun b_68 => ?_) (fun b_68 => ?_)
            · have v_10___t : N2 (10 + t) = ((chN (LkM L co) cz 1 (d + 1) 1 : Nat) : Int) := by rw [v_10___t, hMs, show u = (L (co t)).length from by omega, List.take_length]
              refine lv_aload_n X.1 X.2.1 dX11_bestFrom_152 rfl (lv_at hl 0 rfl) ?_
              refine x_bipush X (by decide) dX11_bestFrom_153 ?_
              refine lv_iload_n X.1 X.2.1 dX11_bestFrom_155 rfl (lv_at hl 1 rfl) ?_
              refine x_iadd X dX11_bestFrom_156 ?_
              refine x_seti (((30 + t : Nat) : Int)) (by omega) ?_
              refine x_bipush X (by decide) dX11_bestFrom_157 ?_
              refine lv_iload_n X.1 X.2.1 dX11_bestFrom_159 rfl (lv_at hl 1 rfl) ?_
              refine x_iadd X dX11_bestFrom_160 ?_
              refine x_iconst X dX11_bestFrom_161 ?_
              refine x_iadd X dX11_bestFrom_162 ?_
              refine x_seti (((31 + t : Nat) : Int)) (by omega) ?_
              refine x_cv (x_runV (k := 2) (As := [.int (iI (((30 + t : Nat) : Int))), .int (iI (((31 + t : Nat) : Int)))]) (rest := []) X hW (c_X11_copy l E A n _ g2 i (30 + t) (31 + t) q N2 hi hO (by omega) (by omega) (by omega) hN) (by omega) hO rfl gX11_bestFrom_X11_copy rfl rfl rfl (by decide +kernel) ⟨by decide, by decide⟩ rfl hl.1 rfl (Nat.le_of_ble_eq_true rfl) dX11_bestFrom_163 ⟨Nat.zero_le _, Nat.zero_le _⟩) hW (fun g_163 H locs hp_163 hW => ?_)
              obtain ⟨hN, hf_163⟩ := hp_163
              obtain ⟨N_163, hN_163⟩ : ∃ N9 : Nat → Int, N9 = va_up N2 (30 + t) (N2 (31 + t)) := ⟨_, rfl⟩
              rw [← hN_163] at hN
              have hO : g_163 i = .inr (11, [.ref (A (i + 1)), .ref (A (i + 2)), .ref (A (i + 3)), .ref (A (i + 4)), .int (iI (q 0)), .ref (A (i + 5)), .ref (A (i + 6)), .ref (A (i + 7)), .ref (A (i + 8)), .int (iI (q 1)), .ref (A (i + 9)), .ref (A (i + 10)), .ref (A (i + 11)), .int (iI (q 2)), .ref (A (i + 12)), .ref (A (i + 13)), .int (iI (q 3)), .ref (A (i + 14)), .ref (A (i + 15)), .ref (A (i + 16)), .int (iI (q 4))]) := by rw [hf_163 _ (by omega)]; exact hO
              have h5 : g_163 (i + 5) = aI E 16 f5 := by rw [hf_163 _ (by omega)]; exact h5
              have h6 : g_163 (i + 6) = aI E 128 f6 := by rw [hf_163 _ (by omega)]; exact h6
              have h7 : g_163 (i + 7) = aI E 128 f7 := by rw [hf_163 _ (by omega)]; exact h7
              have h8 : g_163 (i + 8) = aI E 16 f8 := by rw [hf_163 _ (by omega)]; exact h8
              have h9 : g_163 (i + 9) = aI E 10 f9 := by rw [hf_163 _ (by omega)]; exact h9
              have h10 : g_163 (i + 10) = aI E 10 f10 := by rw [hf_163 _ (by omega)]; exact h10
              have v_30___t : N_163 (30 + t) = ((foA (LkM L co) cz d : Nat) : Int) := by rw [hN_163, va_up_self, v_31___t]
              have v_10___t : N_163 (10 + t) = ((chN (LkM L co) cz 1 (d + 1) 1 : Nat) : Int) := by rw [hN_163, va_up_ne _ _ (by omega)]; exact v_10___t
              have v_11___t : N_163 (11 + t) = ((chN (LkM L co) cz 1 d 1 : Nat) : Int) := by rw [hN_163, va_up_ne _ _ (by omega)]; exact v_11___t
              have v_31___t : N_163 (31 + t) = ((foA (LkM L co) cz d : Nat) : Int) := by rw [hN_163, va_up_ne _ _ (by omega)]; exact v_31___t
              have hoth : ∀ x, x < 2 → N_163 x = N x := fun x hx => (congrFun hN_163 x).trans ((va_up_ne _ _ (by omega)).trans (hoth x hx))
              have hotI : ∀ x, (x ≠ 2 ∧ x ≠ 10 + t ∧ x ≠ 30 + t) → N_163 x = N1 x := fun x hx => (congrFun hN_163 x).trans ((va_up_ne _ _ (by omega)).trans (hotI x hx))
              have hfr : ∀ j, j ≠ i + 1 → g_163 j = g j := fun j hj => (hf_163 j hj).trans (hfr j hj)
              refine lv_aload_n X.1 X.2.1 dX11_bestFrom_166 rfl (lv_at hl 0 rfl) ?_
              refine x_bipush X (by decide) dX11_bestFrom_167 ?_
              refine lv_iload_n X.1 X.2.1 dX11_bestFrom_169 rfl (lv_at hl 1 rfl) ?_
              refine x_iadd X dX11_bestFrom_170 ?_
              refine x_seti (((30 + t : Nat) : Int)) (by omega) ?_
              refine lv_aload_n X.1 X.2.1 dX11_bestFrom_171 rfl (lv_at hl 0 rfl) ?_
              refine x_get (C := RX11) (T := TX11) (N := 21) X hW (by omega) hO rfl lk_0 8 (by decide) lk_4 rfl dX11_bestFrom_172 ?_
              refine lv_iload_n X.1 X.2.1 dX11_bestFrom_175 rfl (lv_at hl 2 rfl) ?_
              refine x_iald X hW (by omega) h8 (v := iI (((bE (L (co t)) (fun _ => 1) : Nat) : Int))) (co t) (by omega) (by omega) (by decide) hb8 dX11_bestFrom_176 ?_
              refine x_i2l X ⟨by omega, by omega⟩ dX11_bestFrom_177 ?_
              refine x_cv (x_runV (k := 2) (As := [.int (iI (((30 + t : Nat) : Int))), .long (lI (((bE (L (co t)) (fun _ => 1) : Nat) : Int)))]) (rest := []) X hW (c_X11_times l E A n _ g_163 i (30 + t) q N_163 (((bE (L (co t)) (fun _ => 1) : Nat) : Int)) hi hO (by omega) hN (by omega) (by omega) (by rw [v_30___t, ← Int.natCast_mul, ← hAs]; omega) (by rw [v_30___t, ← Int.natCast_mul, ← hAs]; omega)) (by omega) hO rfl gX11_bestFrom_X11_times rfl rfl rfl (by decide +kernel) ⟨by decide, by decide⟩ rfl hl.1 rfl (Nat.le_of_ble_eq_true rfl) dX11_bestFrom_178 ⟨Nat.zero_le _, Nat.zero_le _⟩) hW (fun g_178 H locs hp_178 hW => ?_)
              obtain ⟨hN, hf_178⟩ := hp_178
              obtain ⟨N_178, hN_178⟩ : ∃ N9 : Nat → Int, N9 = va_up N_163 (30 + t) (N_163 (30 + t) * (((bE (L (co t)) (fun _ => 1) : Nat) : Int))) := ⟨_, rfl⟩
              rw [← hN_178] at hN
              have hO : g_178 i = .inr (11, [.ref (A (i + 1)), .ref (A (i + 2)), .ref (A (i + 3)), .ref (A (i + 4)), .int (iI (q 0)), .ref (A (i + 5)), .ref (A (i + 6)), .ref (A (i + 7)), .ref (A (i + 8)), .int (iI (q 1)), .ref (A (i + 9)), .ref (A (i + 10)), .ref (A (i + 11)), .int (iI (q 2)), .ref (A (i + 12)), .ref (A (i + 13)), .int (iI (q 3)), .ref (A (i + 14)), .ref (A (i + 15)), .ref (A (i + 16)), .int (iI (q 4))]) := by rw [hf_178 _ (by omega)]; exact hO
              have h5 : g_178 (i + 5) = aI E 16 f5 := by rw [hf_178 _ (by omega)]; exact h5
              have h6 : g_178 (i + 6) = aI E 128 f6 := by rw [hf_178 _ (by omega)]; exact h6
              have h7 : g_178 (i + 7) = aI E 128 f7 := by rw [hf_178 _ (by omega)]; exact h7
              have h8 : g_178 (i + 8) = aI E 16 f8 := by rw [hf_178 _ (by omega)]; exact h8
              have h9 : g_178 (i + 9) = aI E 10 f9 := by rw [hf_178 _ (by omega)]; exact h9
              have h10 : g_178 (i + 10) = aI E 10 f10 := by rw [hf_178 _ (by omega)]; exact h10
              have v_30___t : N_178 (30 + t) = ((foA (LkM L co) cz (d + 1) : Nat) : Int) := by rw [hN_178, va_up_self, v_30___t, ← Int.natCast_mul, ← hAs]
              have v_10___t : N_178 (10 + t) = ((chN (LkM L co) cz 1 (d + 1) 1 : Nat) : Int) := by rw [hN_178, va_up_ne _ _ (by omega)]; exact v_10___t
              have v_11___t : N_178 (11 + t) = ((chN (LkM L co) cz 1 d 1 : Nat) : Int) := by rw [hN_178, va_up_ne _ _ (by omega)]; exact v_11___t
              have v_31___t : N_178 (31 + t) = ((foA (LkM L co) cz d : Nat) : Int) := by rw [hN_178, va_up_ne _ _ (by omega)]; exact v_31___t
              have hoth : ∀ x, x < 2 → N_178 x = N x := fun x hx => (congrFun hN_178 x).trans ((va_up_ne _ _ (by omega)).trans (hoth x hx))
              have hotI : ∀ x, (x ≠ 2 ∧ x ≠ 10 + t ∧ x ≠ 30 + t) → N_178 x = N1 x := fun x hx => (congrFun hN_178 x).trans ((va_up_ne _ _ (by omega)).trans (hotI x hx))
              have hfr : ∀ j, j ≠ i + 1 → g_178 j = g j := fun j hj => (hf_178 j hj).trans (hfr j hj)
              refine lv_iinc (v := iI ((cz : Int) - 1 - ((d + 1 : Nat) : Int))) (lv' := [(1, .int (iI ((cz : Int) - 1 - ((d + 1 : Nat) : Int)))), (0, .ref (A (i))), (2, .int (iI (((co t : Nat) : Int)))), (3, .int (iI (((8 * co t + u : Nat) : Int))))]) X.1 X.2.1 dX11_bestFrom_181 hl (k := 1) rfl (by rw [show (Int32.ofInt (-1)) = iI (-1) from rfl, iI_add]; congr 1; omega) (by decide) rfl (fun ls hl => ?_)
              refine lv_goto (tgt := 31) X.1 X.2.1 dX11_bestFrom_184 (by decide) ?_
              exact ih_31 (d + 1) N_178 g_178 _ _ _ (by omega) (by omega) hN (fun e he => if ee : e = d + 1 then (by rw [ee, show cz - (d + 1) = t from by omega]; exact ⟨v_10___t, v_30___t⟩) else (by rw [hotI _ (by omega), hotI _ (by omega)]; exact hT e (by omega))) hoth hfr hW (lv_sub hl [1, 0] rfl)
            · have hu2 : u < (L (co t)).length := by omega
              obtain ⟨q6, q7, q8, q9⟩ := hbq u hu2
              have hax : foA (LkM L co) cz d * ((((L (co t))).getD u (0, 0)).1 : Nat) ≤ 10 ^ 53 * 1000 := Nat.mul_le_mul (by omega) q8
              have hgl := bMax_take (L (co t)) (u := u + 1) (by omega) (0) (foA (LkM L co) cz d) (chN (LkM L co) cz 1 d 1)
              refine lv_aload_n X.1 X.2.1 dX11_bestFrom_71 rfl (lv_at hl 0 rfl) ?_
              refine x_iconst X dX11_bestFrom_72 ?_
              refine x_lconst X 0 (by decide) dX11_bestFrom_73 ?_
              refine x_cv (x_runV (k := 2) (As := [.int (iI (2)), .long (lI (0))]) (rest := []) X hW (c_X11_set l E A n _ g2 i (2) q N2 (0) hi hO (by omega) hN (by decide) (by decide)) (by omega) hO rfl gX11_bestFrom_X11_set rfl rfl rfl (by decide +kernel) ⟨by decide, by decide⟩ rfl hl.1 rfl (Nat.le_of_ble_eq_true rfl) dX11_bestFrom_74 ⟨Nat.zero_le _, Nat.zero_le _⟩) hW (fun g_74 H locs hp_74 hW => ?_)
              obtain ⟨hN, hf_74⟩ := hp_74
              obtain ⟨N_74, hN_74⟩ : ∃ N9 : Nat → Int, N9 = va_up N2 2 (0) := ⟨_, rfl⟩
              rw [← hN_74] at hN
              have hO : g_74 i = .inr (11, [.ref (A (i + 1)), .ref (A (i + 2)), .ref (A (i + 3)), .ref (A (i + 4)), .int (iI (q 0)), .ref (A (i + 5)), .ref (A (i + 6)), .ref (A (i + 7)), .ref (A (i + 8)), .int (iI (q 1)), .ref (A (i + 9)), .ref (A (i + 10)), .ref (A (i + 11)), .int (iI (q 2)), .ref (A (i + 12)), .ref (A (i + 13)), .int (iI (q 3)), .ref (A (i + 14)), .ref (A (i + 15)), .ref (A (i + 16)), .int (iI (q 4))]) := by rw [hf_74 _ (by omega)]; exact hO
              have h5 : g_74 (i + 5) = aI E 16 f5 := by rw [hf_74 _ (by omega)]; exact h5
              have h6 : g_74 (i + 6) = aI E 128 f6 := by rw [hf_74 _ (by omega)]; exact h6
              have h7 : g_74 (i + 7) = aI E 128 f7 := by rw [hf_74 _ (by omega)]; exact h7
              have h8 : g_74 (i + 8) = aI E 16 f8 := by rw [hf_74 _ (by omega)]; exact h8
              have h9 : g_74 (i + 9) = aI E 10 f9 := by rw [hf_74 _ (by omega)]; exact h9
              have h10 : g_74 (i + 10) = aI E 10 f10 := by rw [hf_74 _ (by omega)]; exact h10
              have v_2 : N_74 2 = 0 := by rw [hN_74, va_up_self]
              have v_10___t : N_74 (10 + t) = ((bMax ((L (co t)).take u) (0) (foA (LkM L co) cz d) (chN (LkM L co) cz 1 d 1) : Nat) : Int) := by rw [hN_74, va_up_ne _ _ (by omega)]; exact v_10___t
              have v_11___t : N_74 (11 + t) = ((chN (LkM L co) cz 1 d 1 : Nat) : Int) := by rw [hN_74, va_up_ne _ _ (by omega)]; exact v_11___t
              have v_31___t : N_74 (31 + t) = ((foA (LkM L co) cz d : Nat) : Int) := by rw [hN_74, va_up_ne _ _ (by omega)]; exact v_31___t
              have hoth : ∀ x, x < 2 → N_74 x = N x := fun x hx => (congrFun hN_74 x).trans ((va_up_ne _ _ (by omega)).trans (hoth x hx))
              have hotI : ∀ x, (x ≠ 2 ∧ x ≠ 10 + t ∧ x ≠ 30 + t) → N_74 x = N1 x := fun x hx => (congrFun hN_74 x).trans ((va_up_ne _ _ (by omega)).trans (hotI x hx))
              have hfr : ∀ j, j ≠ i + 1 → g_74 j = g j := fun j hj => (hf_74 j hj).trans (hfr j hj)
              refine lv_aload_n X.1 X.2.1 dX11_bestFrom_77 rfl (lv_at hl 0 rfl) ?_
              refine x_iconst X dX11_bestFrom_78 ?_
              refine x_bipush X (by decide) dX11_bestFrom_79 ?_
              refine lv_iload_n X.1 X.2.1 dX11_bestFrom_81 rfl (lv_at hl 1 rfl) ?_
              refine x_iadd X dX11_bestFrom_82 ?_
              refine x_iconst X dX11_bestFrom_83 ?_
              refine x_iadd X dX11_bestFrom_84 ?_
              refine x_seti (((31 + t : Nat) : Int)) (by omega) ?_
              refine lv_aload_n X.1 X.2.1 dX11_bestFrom_85 rfl (lv_at hl 0 rfl) ?_
              refine x_get (C := RX11) (T := TX11) (N := 21) X hW (by omega) hO rfl lk_0 6 (by decide) lk_5 rfl dX11_bestFrom_86 ?_
              refine lv_iload_n X.1 X.2.1 dX11_bestFrom_89 rfl (lv_at hl 3 rfl) ?_
              refine x_iald X hW (by omega) h6 (v := iI (((((((L (co t))).getD u (0, 0)).1 : Nat) : Nat) : Int))) (8 * co t + u) (by omega) (by omega) (by decide) q6 dX11_bestFrom_90 ?_
              refine x_i2l X ⟨by omega, by omega⟩ dX11_bestFrom_91 ?_
              refine x_cv (x_runV (k := 3) (As := [.int (iI (2)), .int (iI (((31 + t : Nat) : Int))), .long (lI (((((((L (co t))).getD u (0, 0)).1 : Nat) : Nat) : Int)))]) (rest := []) X hW (c_X11_more l E A n _ g_74 i (2) (31 + t) q N_74 (((((((L (co t))).getD u (0, 0)).1 : Nat) : Nat) : Int)) hi hO (by omega) (by omega) (by omega) hN (by omega) (by omega) (by rw [v_2, v_31___t, Int.zero_add, ← Int.natCast_mul]; omega) (by rw [v_2, v_31___t, Int.zero_add, ← Int.natCast_mul]; omega)) (by omega) hO rfl gX11_bestFrom_X11_more rfl rfl rfl (by decide +kernel) ⟨by decide, by decide⟩ rfl hl.1 rfl (Nat.le_of_ble_eq_true rfl) dX11_bestFrom_92 ⟨Nat.zero_le _, Nat.zero_le _⟩) hW (fun g_92 H locs hp_92 hW => ?_)
              obtain ⟨hN, hf_92⟩ := hp_92
              obtain ⟨N_92, hN_92⟩ : ∃ N9 : Nat → Int, N9 = va_up N_74 2 (N_74 2 + N_74 (31 + t) * (((((((L (co t))).getD u (0, 0)).1 : Nat) : Nat) : Int))) := ⟨_, rfl⟩
              rw [← hN_92] at hN
              have hO : g_92 i = .inr (11, [.ref (A (i + 1)), .ref (A (i + 2)), .ref (A (i + 3)), .ref (A (i + 4)), .int (iI (q 0)), .ref (A (i + 5)), .ref (A (i + 6)), .ref (A (i + 7)), .ref (A (i + 8)), .int (iI (q 1)), .ref (A (i + 9)), .ref (A (i + 10)), .ref (A (i + 11)), .int (iI (q 2)), .ref (A (i + 12)), .ref (A (i + 13)), .int (iI (q 3)), .ref (A (i + 14)), .ref (A (i + 15)), .ref (A (i + 16)), .int (iI (q 4))]) := by rw [hf_92 _ (by omega)]; exact hO
              have h5 : g_92 (i + 5) = aI E 16 f5 := by rw [hf_92 _ (by omega)]; exact h5
              have h6 : g_92 (i + 6) = aI E 128 f6 := by rw [hf_92 _ (by omega)]; exact h6
              have h7 : g_92 (i + 7) = aI E 128 f7 := by rw [hf_92 _ (by omega)]; exact h7
              have h8 : g_92 (i + 8) = aI E 16 f8 := by rw [hf_92 _ (by omega)]; exact h8
              have h9 : g_92 (i + 9) = aI E 10 f9 := by rw [hf_92 _ (by omega)]; exact h9
              have h10 : g_92 (i + 10) = aI E 10 f10 := by rw [hf_92 _ (by omega)]; exact h10
              have v_2 : N_92 2 = ((0 + foA (LkM L co) cz d * ((((L (co t))).getD u (0, 0)).1 : Nat) : Nat) : Int) := by rw [hN_92, va_up_self, v_2, v_31___t, Int.zero_add, ← Int.natCast_mul, Nat.zero_add]
              have v_10___t : N_92 (10 + t) = ((bMax ((L (co t)).take u) (0) (foA (LkM L co) cz d) (chN (LkM L co) cz 1 d 1) : Nat) : Int) := by rw [hN_92, va_up_ne _ _ (by omega)]; exact v_10___t
              have v_11___t : N_92 (11 + t) = ((chN (LkM L co) cz 1 d 1 : Nat) : Int) := by rw [hN_92, va_up_ne _ _ (by omega)]; exact v_11___t
              have v_31___t : N_92 (31 + t) = ((foA (LkM L co) cz d : Nat) : Int) := by rw [hN_92, va_up_ne _ _ (by omega)]; exact v_31___t
              have hoth : ∀ x, x < 2 → N_92 x = N x := fun x hx => (congrFun hN_92 x).trans ((va_up_ne _ _ (by omega)).trans (hoth x hx))
              have hotI : ∀ x, (x ≠ 2 ∧ x ≠ 10 + t ∧ x ≠ 30 + t) → N_92 x = N1 x := fun x hx => (congrFun hN_92 x).trans ((va_up_ne _ _ (by omega)).trans (hotI x hx))
              have hfr : ∀ j, j ≠ i + 1 → g_92 j = g j := fun j hj => (hf_92 j hj).trans (hfr j hj)
              refine lv_aload_n X.1 X.2.1 dX11_bestFrom_95 rfl (lv_at hl 0 rfl) ?_
              refine x_iconst X dX11_bestFrom_96 ?_
              refine x_bipush X (by decide) dX11_bestFrom_97 ?_
              refine lv_iload_n X.1 X.2.1 dX11_bestFrom_99 rfl (lv_at hl 1 rfl) ?_
              refine x_iadd X dX11_bestFrom_100 ?_
              refine x_iconst X dX11_bestFrom_101 ?_
              refine x_iadd X dX11_bestFrom_102 ?_
              refine x_seti (((11 + t : Nat) : Int)) (by omega) ?_
              refine x_ci (x_runV (k := 2) (As := [.int (iI (2)), .int (iI (((11 + t : Nat) : Int)))]) (rest := []) X hW (c_X11_compared l E A n _ g_92 i (2) (11 + t) q N_92 hi hO (by omega) (by omega) hN) (by omega) hO rfl gX11_bestFrom_X11_compared rfl rfl rfl (by decide +kernel) ⟨by decide, by decide⟩ rfl hl.1 rfl (Nat.le_of_ble_eq_true rfl) dX11_bestFrom_103 ⟨Nat.zero_le _, Nat.zero_le _⟩) hW (fun r_103 g_103 H locs hp_103 hW => ?_)
              obtain ⟨hr_103, he_103⟩ := hp_103
              rw [he_103] at hW
              rw [v_2, v_11___t] at hr_103
              subst hr_103
              refine x_if_lt (tgt := 113) X (cmp_rng _ _) dX11_bestFrom_106 (by decide) (fun b_106 => ?_) (fun b_106 => ?_)
              · have hgs := mx_no hu2 (ya := 0) (Nat.le_of_lt (cmp_lt b_106))
                refine x_iconst X dX11_bestFrom_113 ?_
                refine lv_istore (lv' := [(4, .int (iI (0))), (0, .ref (A (i))), (1, .int (iI ((cz : Int) - 1 - (d : Int)))), (2, .int (iI (((co t : Nat) : Int)))), (3, .int (iI (((8 * co t + u : Nat) : Int))))]) X.1 X.2.1 dX11_bestFrom_114 hl (by decide) rfl (fun ls hl => ?_)
                refine lv_aload_n X.1 X.2.1 dX11_bestFrom_116 rfl (lv_at hl 1 rfl) ?_
                refine x_bipush X (by decide) dX11_bestFrom_117 ?_
                refine lv_iload_n X.1 X.2.1 dX11_bestFrom_119 rfl (lv_at hl 2 rfl) ?_
                refine x_iadd X dX11_bestFrom_120 ?_
                refine x_seti (((10 + t : Nat) : Int)) (by omega) ?_
                refine lv_iload X.1 X.2.1 dX11_bestFrom_121 (lv_at hl 0 rfl) ?_
                refine x_if_eq (tgt := 130) X ⟨by decide, by decide⟩ dX11_bestFrom_123 (by decide) (fun b_123 => ?_) (fun b_123 => ?_)
                · refine x_bipush X (by decide) dX11_bestFrom_130 ?_
                  refine lv_iload_n X.1 X.2.1 dX11_bestFrom_132 rfl (lv_at hl 2 rfl) ?_
                  refine x_iadd X dX11_bestFrom_133 ?_
                  refine x_iconst X dX11_bestFrom_134 ?_
                  refine x_iadd X dX11_bestFrom_135 ?_
                  refine x_seti (((11 + t : Nat) : Int)) (by omega) ?_
                  refine lv_aload_n X.1 X.2.1 dX11_bestFrom_136 rfl (lv_at hl 1 rfl) ?_
                  refine x_get (C := RX11) (T := TX11) (N := 21) X hW (by omega) hO rfl lk_0 7 (by decide) lk_6 rfl dX11_bestFrom_137 ?_
                  refine lv_iload_n X.1 X.2.1 dX11_bestFrom_140 rfl (lv_at hl 4 rfl) ?_
                  refine x_iald X hW (by omega) h7 (v := iI (((((((L (co t))).getD u (0, 0)).2 : Nat) : Nat) : Int))) (8 * co t + u) (by omega) (by omega) (by decide) q7 dX11_bestFrom_141 ?_
                  refine x_i2l X ⟨by omega, by omega⟩ dX11_bestFrom_142 ?_
                  refine x_cv (x_runV (k := 3) (As := [.int (iI (((10 + t : Nat) : Int))), .int (iI (((11 + t : Nat) : Int))), .long (lI (((((((L (co t))).getD u (0, 0)).2 : Nat) : Nat) : Int)))]) (rest := []) X hW (c_X11_more l E A n _ g_92 i (10 + t) (11 + t) q N_92 (((((((L (co t))).getD u (0, 0)).2 : Nat) : Nat) : Int)) hi hO (by omega) (by omega) (by omega) hN (by omega) (by omega) (by rw [v_10___t, v_11___t, hgs]; omega) (by rw [v_10___t, v_11___t, hgs]; omega)) (by omega) hO rfl gX11_bestFrom_X11_more rfl rfl rfl (by decide +kernel) ⟨by decide, by decide⟩ rfl hl.1 rfl (Nat.le_of_ble_eq_true rfl) dX11_bestFrom_143 ⟨Nat.zero_le _, Nat.zero_le _⟩) hW (fun g_143 H locs hp_143 hW => ?_)
                  obtain ⟨hN, hf_143⟩ := hp_143
                  obtain ⟨N_143, hN_143⟩ : ∃ N9 : Nat → Int, N9 = va_up N_92 (10 + t) (N_92 (10 + t) + N_92 (11 + t) * (((((((L (co t))).getD u (0, 0)).2 : Nat) : Nat) : Int))) := ⟨_, rfl⟩
                  rw [← hN_143] at hN
                  have hO : g_143 i = .inr (11, [.ref (A (i + 1)), .ref (A (i + 2)), .ref (A (i + 3)), .ref (A (i + 4)), .int (iI (q 0)), .ref (A (i + 5)), .ref (A (i + 6)), .ref (A (i + 7)), .ref (A (i + 8)), .int (iI (q 1)), .ref (A (i + 9)), .ref (A (i + 10)), .ref (A (i + 11)), .int (iI (q 2)), .ref (A (i + 12)), .ref (A (i + 13)), .int (iI (q 3)), .ref (A (i + 14)), .ref (A (i + 15)), .ref (A (i + 16)), .int (iI (q 4))]) := by rw [hf_143 _ (by omega)]; exact hO
                  have h5 : g_143 (i + 5) = aI E 16 f5 := by rw [hf_143 _ (by omega)]; exact h5
                  have h6 : g_143 (i + 6) = aI E 128 f6 := by rw [hf_143 _ (by omega)]; exact h6
                  have h7 : g_143 (i + 7) = aI E 128 f7 := by rw [hf_143 _ (by omega)]; exact h7
                  have h8 : g_143 (i + 8) = aI E 16 f8 := by rw [hf_143 _ (by omega)]; exact h8
                  have h9 : g_143 (i + 9) = aI E 10 f9 := by rw [hf_143 _ (by omega)]; exact h9
                  have h10 : g_143 (i + 10) = aI E 10 f10 := by rw [hf_143 _ (by omega)]; exact h10
                  have v_10___t : N_143 (10 + t) = ((bMax ((L (co t)).take (u + 1)) (0) (foA (LkM L co) cz d) (chN (LkM L co) cz 1 d 1) : Nat) : Int) := by rw [hN_143, va_up_self, v_10___t, v_11___t, hgs]
                  have v_11___t : N_143 (11 + t) = ((chN (LkM L co) cz 1 d 1 : Nat) : Int) := by rw [hN_143, va_up_ne _ _ (by omega)]; exact v_11___t
                  have v_31___t : N_143 (31 + t) = ((foA (LkM L co) cz d : Nat) : Int) := by rw [hN_143, va_up_ne _ _ (by omega)]; exact v_31___t
                  have v_2 : N_143 2 = ((0 + foA (LkM L co) cz d * ((((L (co t))).getD u (0, 0)).1 : Nat) : Nat) : Int) := by rw [hN_143, va_up_ne _ _ (by omega)]; exact v_2
                  have hoth : ∀ x, x < 2 → N_143 x = N x := fun x hx => (congrFun hN_143 x).trans ((va_up_ne _ _ (by omega)).trans (hoth x hx))
                  have hotI : ∀ x, (x ≠ 2 ∧ x ≠ 10 + t ∧ x ≠ 30 + t) → N_143 x = N1 x := fun x hx => (congrFun hN_143 x).trans ((va_up_ne _ _ (by omega)).trans (hotI x hx))
                  have hfr : ∀ j, j ≠ i + 1 → g_143 j = g j := fun j hj => (hf_143 j hj).trans (hfr j hj)
                  refine lv_iinc (v := iI (((8 * co t + (u + 1) : Nat) : Int))) (lv' := [(3, .int (iI (((8 * co t + (u + 1) : Nat) : Int)))), (4, .int (iI (0))), (0, .ref (A (i))), (1, .int (iI ((cz : Int) - 1 - (d : Int)))), (2, .int (iI (((co t : Nat) : Int))))]) X.1 X.2.1 dX11_bestFrom_146 hl (k := 4) rfl (by rw [show (Int32.ofInt (1)) = iI (1) from rfl, iI_add]; first | rfl | (congr 1; omega)) (by decide) rfl (fun ls hl => ?_)
                  refine lv_goto (tgt := 56) X.1 X.2.1 dX11_bestFrom_149 (by decide) ?_
                  exact ih_56 (u + 1) N_143 g_143 _ _ _ (by omega) (by omega) hN v_10___t hotI hoth hfr hW (lv_sub hl [2, 3, 4, 0] rfl)
                · exact absurd (by decide) b_123
              · have hgs := mx_yes hu2 (ya := 0) (cmp_ge b_106)
                refine x_iconst X dX11_bestFrom_109 ?_
                refine lv_goto (tgt := 114) X.1 X.2.1 dX11_bestFrom_110 (by decide) ?_
                refine lv_istore (lv' := [(4, .int (iI (1))), (0, .ref (A (i))), (1, .int (iI ((cz : Int) - 1 - (d : Int)))), (2, .int (iI (((co t : Nat) : Int)))), (3, .int (iI (((8 * co t + u : Nat) : Int))))]) X.1 X.2.1 dX11_bestFrom_114 hl (by decide) rfl (fun ls hl => ?_)
                refine lv_aload_n X.1 X.2.1 dX11_bestFrom_116 rfl (lv_at hl 1 rfl) ?_
                refine x_bipush X (by decide) dX11_bestFrom_117 ?_
                refine lv_iload_n X.1 X.2.1 dX11_bestFrom_119 rfl (lv_at hl 2 rfl) ?_
                refine x_iadd X dX11_bestFrom_120 ?_
                refine x_seti (((10 + t : Nat) : Int)) (by omega) ?_
                refine lv_iload X.1 X.2.1 dX11_bestFrom_121 (lv_at hl 0 rfl) ?_
                refine x_if_eq (tgt := 130) X ⟨by decide, by decide⟩ dX11_bestFrom_123 (by decide) (fun b_123 => ?_) (fun b_123 => ?_)
                · exact absurd b_123 (by decide)
                · refine x_iconst X dX11_bestFrom_126 ?_
                  refine lv_goto (tgt := 136) X.1 X.2.1 dX11_bestFrom_127 (by decide) ?_
                  refine lv_aload_n X.1 X.2.1 dX11_bestFrom_136 rfl (lv_at hl 1 rfl) ?_
                  refine x_get (C := RX11) (T := TX11) (N := 21) X hW (by omega) hO rfl lk_0 7 (by decide) lk_6 rfl dX11_bestFrom_137 ?_
                  refine lv_iload_n X.1 X.2.1 dX11_bestFrom_140 rfl (lv_at hl 4 rfl) ?_
                  refine x_iald X hW (by omega) h7 (v := iI (((((((L (co t))).getD u (0, 0)).2 : Nat) : Nat) : Int))) (8 * co t + u) (by omega) (by omega) (by decide) q7 dX11_bestFrom_141 ?_
                  refine x_i2l X ⟨by omega, by omega⟩ dX11_bestFrom_142 ?_
                  refine x_cv (x_runV (k := 3) (As := [.int (iI (((10 + t : Nat) : Int))), .int (iI (2)), .long (lI (((((((L (co t))).getD u (0, 0)).2 : Nat) : Nat) : Int)))]) (rest := []) X hW (c_X11_more l E A n _ g_92 i (10 + t) (2) q N_92 (((((((L (co t))).getD u (0, 0)).2 : Nat) : Nat) : Int)) hi hO (by omega) (by omega) (by omega) hN (by omega) (by omega) (by rw [v_10___t, v_2, hgs]; omega) (by rw [v_10___t, v_2, hgs]; omega)) (by omega) hO rfl gX11_bestFrom_X11_more rfl rfl rfl (by decide +kernel) ⟨by decide, by decide⟩ rfl hl.1 rfl (Nat.le_of_ble_eq_true rfl) dX11_bestFrom_143 ⟨Nat.zero_le _, Nat.zero_le _⟩) hW (fun g_143 H locs hp_143 hW => ?_)
                  obtain ⟨hN, hf_143⟩ := hp_143
                  obtain ⟨N_143, hN_143⟩ : ∃ N9 : Nat → Int, N9 = va_up N_92 (10 + t) (N_92 (10 + t) + N_92 2 * (((((((L (co t))).getD u (0, 0)).2 : Nat) : Nat) : Int))) := ⟨_, rfl⟩
                  rw [← hN_143] at hN
                  have hO : g_143 i = .inr (11, [.ref (A (i + 1)), .ref (A (i + 2)), .ref (A (i + 3)), .ref (A (i + 4)), .int (iI (q 0)), .ref (A (i + 5)), .ref (A (i + 6)), .ref (A (i + 7)), .ref (A (i + 8)), .int (iI (q 1)), .ref (A (i + 9)), .ref (A (i + 10)), .ref (A (i + 11)), .int (iI (q 2)), .ref (A (i + 12)), .ref (A (i + 13)), .int (iI (q 3)), .ref (A (i + 14)), .ref (A (i + 15)), .ref (A (i + 16)), .int (iI (q 4))]) := by rw [hf_143 _ (by omega)]; exact hO
                  have h5 : g_143 (i + 5) = aI E 16 f5 := by rw [hf_143 _ (by omega)]; exact h5
                  have h6 : g_143 (i + 6) = aI E 128 f6 := by rw [hf_143 _ (by omega)]; exact h6
                  have h7 : g_143 (i + 7) = aI E 128 f7 := by rw [hf_143 _ (by omega)]; exact h7
                  have h8 : g_143 (i + 8) = aI E 16 f8 := by rw [hf_143 _ (by omega)]; exact h8
                  have h9 : g_143 (i + 9) = aI E 10 f9 := by rw [hf_143 _ (by omega)]; exact h9
                  have h10 : g_143 (i + 10) = aI E 10 f10 := by rw [hf_143 _ (by omega)]; exact h10
                  have v_10___t : N_143 (10 + t) = ((bMax ((L (co t)).take (u + 1)) (0) (foA (LkM L co) cz d) (chN (LkM L co) cz 1 d 1) : Nat) : Int) := by rw [hN_143, va_up_self, v_10___t, v_2, hgs]
                  have v_11___t : N_143 (11 + t) = ((chN (LkM L co) cz 1 d 1 : Nat) : Int) := by rw [hN_143, va_up_ne _ _ (by omega)]; exact v_11___t
                  have v_31___t : N_143 (31 + t) = ((foA (LkM L co) cz d : Nat) : Int) := by rw [hN_143, va_up_ne _ _ (by omega)]; exact v_31___t
                  have v_2 : N_143 2 = ((0 + foA (LkM L co) cz d * ((((L (co t))).getD u (0, 0)).1 : Nat) : Nat) : Int) := by rw [hN_143, va_up_ne _ _ (by omega)]; exact v_2
                  have hoth : ∀ x, x < 2 → N_143 x = N x := fun x hx => (congrFun hN_143 x).trans ((va_up_ne _ _ (by omega)).trans (hoth x hx))
                  have hotI : ∀ x, (x ≠ 2 ∧ x ≠ 10 + t ∧ x ≠ 30 + t) → N_143 x = N1 x := fun x hx => (congrFun hN_143 x).trans ((va_up_ne _ _ (by omega)).trans (hotI x hx))
                  have hfr : ∀ j, j ≠ i + 1 → g_143 j = g j := fun j hj => (hf_143 j hj).trans (hfr j hj)
                  refine lv_iinc (v := iI (((8 * co t + (u + 1) : Nat) : Int))) (lv' := [(3, .int (iI (((8 * co t + (u + 1) : Nat) : Int)))), (4, .int (iI (1))), (0, .ref (A (i))), (1, .int (iI ((cz : Int) - 1 - (d : Int)))), (2, .int (iI (((co t : Nat) : Int))))]) X.1 X.2.1 dX11_bestFrom_146 hl (k := 4) rfl (by rw [show (Int32.ofInt (1)) = iI (1) from rfl, iI_add]; first | rfl | (congr 1; omega)) (by decide) rfl (fun ls hl => ?_)
                  refine lv_goto (tgt := 56) X.1 X.2.1 dX11_bestFrom_149 (by decide) ?_
                  exact ih_56 (u + 1) N_143 g_143 _ _ _ (by omega) (by omega) hN v_10___t hotI hoth hfr hW (lv_sub hl [2, 3, 4, 0] rfl)
        exact loop_56 _ 0 N_48 g_48 _ _ _ (Nat.lt_succ_self _) (Nat.zero_le _) hN v_10___t hotI hoth hfr hW (lv_sub hl [2, 3, 1, 0] rfl)
  exact loop_31 _ 0 N_21 g_21 _ _ _ (Nat.lt_succ_self _) (Nat.zero_le _) hN (fun e he => by rw [show e = 0 from by omega]; exact ⟨v_10___cz, v_30___cz⟩) hoth hfr hW (lv_sub hl [1, 0] rfl)

set_option maxHeartbeats 4000000 in
set_option maxRecDepth 100000 in
/-- best -/
theorem c_X11_best (l : Launch) (E : wE) (A : Nat → Nat) (n sz : Nat) (g : Nat → va_E) (i : Nat) (q : Nat → Int) (N : Nat → Int) (bk : Nat) (L : Nat → List (Nat × Nat)) (cz : Nat) (co br : Nat → Nat) (hi : i + 16 < n) (hO : g i = mO A i q) (hN : MN E A g i N) (hB : BooksM E A g i bk L) (hq1 : q 1 = (cz : Int)) (hC : ComM E A g i bk cz co br) : Met l yX11_best wsX11_best ({ frames := 7, cells := 0, slots := 0, locals := 260 } : Room) (va_Pc [.ref (A (i))] (wPre E A n sz g)) (va_Qv (fun g' => MR E A g' i (rdT ((chN (LkM L co) cz 1 cz 1 : Nat) : Int) (foA (LkM L co) cz cz)) (rdB ((chN (LkM L co) cz 1 cz 1 : Nat) : Int) (foA (LkM L co) cz cz)) ∧ ∀ j, j ≠ i + 1 → g' j = g j) (wAt E A n) (wF A n sz)) 0 0 (wF A n sz) := by
  refine x_met (cc := cX11_best) (maxL := 1) (ret := none) [.ref (A (i))] (by decide) rfl (Nat.le_of_ble_eq_true rfl) ?_
  intro p e s m below meth c ls X hr hlk hnm hsz hW hl
  have hl : lv_has ls 1 [(0, .ref (A (i)))] := hl
  have hO : g i = .inr (11, [.ref (A (i + 1)), .ref (A (i + 2)), .ref (A (i + 3)), .ref (A (i + 4)), .int (iI (q 0)), .ref (A (i + 5)), .ref (A (i + 6)), .ref (A (i + 7)), .ref (A (i + 8)), .int (iI (q 1)), .ref (A (i + 9)), .ref (A (i + 10)), .ref (A (i + 11)), .int (iI (q 2)), .ref (A (i + 12)), .ref (A (i + 13)), .int (iI (q 3)), .ref (A (i + 14)), .ref (A (i + 15)), .ref (A (i + 16)), .int (iI (q 4))]) := hO
  have hOg := hO
  have hfr : ∀ j, j ≠ i + 1 → g j = g j := fun _ _ => rfl
  have hBo := hB
  obtain ⟨f5, f6, f7, f8, h5, h6, h7, h8, hbk, hbv⟩ := id hB
  have h5o := h5
  have h6o := h6
  have h7o := h7
  have h8o := h8
  have hCo := hC
  obtain ⟨f9, f10, h9, h10, hc10, hcv⟩ := id hC
  have h9o := h9
  have h10o := h10
  have hok0 : ∀ k, k < cz → bOK (LkM L co k) := fun k hk => by
    have hk2 := (hcv k hk).1
    exact ⟨(hbv _ hk2).1, fun u hu => ((hbv _ hk2).2.2.2.2 u hu).2.2⟩
  have hcap0 : ∀ k, k < cz → bE (LkM L co k) (fun _ => 1) ≤ 8000 ∧ (∀ b : Int, bBelow (LkM L co k) b ≤ 8000) ∧ ∀ b : Int, bGath (LkM L co k) b ≤ 8000000 := fun k hk => ⟨bOK_tot (hok0 k hk), fun b => bOK_below (hok0 k hk) b, fun b => bOK_gath (hok0 k hk) b⟩
  have hpos0 : ∀ k, k < cz → 0 < bE (LkM L co k) (fun _ => 1) := fun k hk => (hbv _ (hcv k hk).1).2.2.2.1
  have hA1 := foA_le (fun k hk => (hcap0 k hk).1) cz (Nat.le_refl _)
  have hA0 := foA_pos hpos0 cz (Nat.le_refl _)
  have hpc := pow_cap hc10
  have hM1 := chN_cap (K := 1) hok0 cz (Nat.le_refl _) 1
  refine lv_aload_n X.1 X.2.1 dX11_best_0 rfl (lv_at hl 0 rfl) ?_
  refine x_cv (x_runV (k := 0) (As := []) (rest := []) X hW (c_X11_bestFrom l E A n _ g i q N bk L cz co br hi hO hN (hB.frame (fun j a9 b9 => hfr j (by omega))) hq1 (hC.frame (hfr _ (by omega)) (hfr _ (by omega)))) (by omega) hO rfl gX11_best_X11_bestFrom rfl rfl rfl (by decide +kernel) ⟨by decide, by decide⟩ rfl hl.1 rfl (Nat.le_of_ble_eq_true rfl) dX11_best_1 ⟨Nat.zero_le _, Nat.zero_le _⟩) hW (fun g_1 H locs hp_1 hW => ?_)
  obtain ⟨⟨N_1, hN, hT, ho_1⟩, hf_1⟩ := hp_1
  have hoth := ho_1
  have hfr : ∀ j, j ≠ i + 1 → g_1 j = g j := fun j hj => (hf_1 j hj).trans (hfr j hj)
  have hO : g_1 i = .inr (11, [.ref (A (i + 1)), .ref (A (i + 2)), .ref (A (i + 3)), .ref (A (i + 4)), .int (iI (q 0)), .ref (A (i + 5)), .ref (A (i + 6)), .ref (A (i + 7)), .ref (A (i + 8)), .int (iI (q 1)), .ref (A (i + 9)), .ref (A (i + 10)), .ref (A (i + 11)), .int (iI (q 2)), .ref (A (i + 12)), .ref (A (i + 13)), .int (iI (q 3)), .ref (A (i + 14)), .ref (A (i + 15)), .ref (A (i + 16)), .int (iI (q 4))]) := by rw [hf_1 _ (by omega)]; exact hO
  have v_10 : N_1 10 = ((chN (LkM L co) cz 1 cz 1 : Nat) : Int) := by rw [← (hT cz (Nat.le_refl _)).1, Nat.sub_self]
  have v_30 : N_1 30 = ((foA (LkM L co) cz cz : Nat) : Int) := by rw [← (hT cz (Nat.le_refl _)).2, Nat.sub_self]
  refine lv_aload_n X.1 X.2.1 dX11_best_4 rfl (lv_at hl 0 rfl) ?_
  refine x_bipush X (by decide) dX11_best_5 ?_
  refine x_bipush X (by decide) dX11_best_7 ?_
  refine x_cv (x_runV (k := 2) (As := [.int (iI (10)), .int (iI (30))]) (rest := []) X hW (c_X11_result l E A n _ g_1 i (10) (30) q N_1 (((chN (LkM L co) cz 1 cz 1 : Nat) : Int)) (foA (LkM L co) cz cz) hi hO (by omega) (by omega) (by omega) (by omega) hN v_10 v_30 hA0 (by omega) (by omega) (by omega)) (by omega) hO rfl gX11_best_X11_result rfl rfl rfl (by decide +kernel) ⟨by decide, by decide⟩ rfl hl.1 rfl (Nat.le_of_ble_eq_true rfl) dX11_best_9 ⟨Nat.zero_le _, Nat.zero_le _⟩) hW (fun g_9 H locs hp_9 hW => ?_)
  obtain ⟨⟨N_9, hN, v_0, v_1, ho8_9⟩, hf_9⟩ := hp_9
  have hfr : ∀ j, j ≠ i + 1 → g_9 j = g j := fun j hj => (hf_9 j hj).trans (hfr j hj)
  have hO : g_9 i = .inr (11, [.ref (A (i + 1)), .ref (A (i + 2)), .ref (A (i + 3)), .ref (A (i + 4)), .int (iI (q 0)), .ref (A (i + 5)), .ref (A (i + 6)), .ref (A (i + 7)), .ref (A (i + 8)), .int (iI (q 1)), .ref (A (i + 9)), .ref (A (i + 10)), .ref (A (i + 11)), .int (iI (q 2)), .ref (A (i + 12)), .ref (A (i + 13)), .int (iI (q 3)), .ref (A (i + 14)), .ref (A (i + 15)), .ref (A (i + 16)), .int (iI (q 4))]) := by rw [hf_9 _ (by omega)]; exact hO
  exact x_vret X hr hlk hW (⟨⟨_, hN, v_0, v_1⟩, hfr⟩) dX11_best_12

/-- the greatest of the worths so far for which a yes would lose, and one more -/
def LBt (L : List (Nat × Nat)) (al no u b : Nat) : Prop := (∀ k, k < u → 0 < (L.getD k (0, 0)).2 → al * (L.getD k (0, 0)).1 < no → (L.getD k (0, 0)).1 < b) ∧ (b = 0 ∨ ∃ k, k < u ∧ 0 < (L.getD k (0, 0)).2 ∧ al * (L.getD k (0, 0)).1 < no ∧ b = (L.getD k (0, 0)).1 + 1)
theorem mass_pair {L : List (Nat × Nat)} {k : Nat} (hk : k < L.length) (hw : 0 < (L.getD k (0, 0)).2) : 0 < bMass L (L.getD k (0, 0)).1 := by
  have h1 := bE_take_le L (fun x => if x = (L.getD k (0, 0)).1 then 1 else 0) (L.length - (k + 1)) (k + 1) (by omega)
  rw [bE_step L k hk, if_pos rfl] at h1
  unfold bMass
  omega
theorem pair_mass {L : List (Nat × Nat)} {x : Nat} (h : 0 < bMass L x) : ∃ k, k < L.length ∧ (L.getD k (0, 0)).1 = x ∧ 0 < (L.getD k (0, 0)).2 := by
  apply Decidable.byContradiction
  intro hc
  have hz : ∀ t, t ≤ L.length → bE (L.take t) (fun y => if y = x then 1 else 0) = 0 := by
    intro t
    induction t with
    | zero => intro _; rfl
    | succ t ih =>
      intro ht
      rw [bE_step L t (by omega), ih (by omega), Nat.zero_add]
      by_cases e : (L.getD t (0, 0)).1 = x
      · have : (L.getD t (0, 0)).2 = 0 := by
          apply Decidable.byContradiction
          intro h0
          exact hc ⟨t, by omega, e, by omega⟩
        rw [this, Nat.zero_mul]
      · rw [if_neg e, Nat.mul_zero]
  have h2 := hz L.length (Nat.le_refl _)
  rw [List.take_length] at h2
  unfold bMass at h
  omega
theorem LBt_end {L : List (Nat × Nat)} (ho : bOK L) {al no b : Nat} (h : LBt L al no L.length b) : LB L 0 al no b := by
  refine ⟨?_, ?_, ?_, ?_⟩
  · intro x hx hb
    rcases h.2 with h2 | ⟨k, hk, hw, hl, rfl⟩
    · omega
    · rw [Nat.zero_add]
      exact Nat.lt_of_le_of_lt (Nat.mul_le_mul_left _ (by omega)) hl
  · intro x hx hb
    obtain ⟨k, hk, rfl, hw⟩ := pair_mass hx
    rw [Nat.zero_add]
    apply Decidable.byContradiction
    intro hc
    have := h.1 k hk hw (by omega)
    omega
  · rcases h.2 with h2 | ⟨k, hk, hw, hl, rfl⟩
    · exact Or.inl h2
    · exact Or.inr (mass_pair hk hw)
  · rcases h.2 with h2 | ⟨k, hk, hw, hl, rfl⟩
    · omega
    · have := (ho.2 k hk).1
      omega
theorem LBt_0 (L : List (Nat × Nat)) (al no : Nat) : LBt L al no 0 0 := ⟨fun k hk => absurd hk (Nat.not_lt_zero _), Or.inl rfl⟩
theorem LBt_skip {L : List (Nat × Nat)} {al no u b : Nat} (h : LBt L al no u b) (hc : 0 < (L.getD u (0, 0)).2 → no ≤ al * (L.getD u (0, 0)).1) : LBt L al no (u + 1) b := by
  refine ⟨fun k hk h1 h2 => ?_, ?_⟩
  · by_cases e : k = u
    · subst e; have := hc h1; omega
    · exact h.1 k (by omega) h1 h2
  · rcases h.2 with h2 | ⟨k, hk, h3⟩
    · exact Or.inl h2
    · exact Or.inr ⟨k, by omega, h3⟩
theorem LBt_take {L : List (Nat × Nat)} {al no u b : Nat} (h : LBt L al no u b) (h1 : 0 < (L.getD u (0, 0)).2) (h2 : al * (L.getD u (0, 0)).1 < no) : LBt L al no (u + 1) (if b < (L.getD u (0, 0)).1 + 1 then (L.getD u (0, 0)).1 + 1 else b) := by
  by_cases hb : b < (L.getD u (0, 0)).1 + 1
  · rw [if_pos hb]
    refine ⟨fun k hk h3 h4 => ?_, Or.inr ⟨u, by omega, h1, h2, rfl⟩⟩
    by_cases e : k = u
    · subst e; omega
    · have := h.1 k (by omega) h3 h4; omega
  · rw [if_neg hb]
    refine ⟨fun k hk h3 h4 => ?_, ?_⟩
    · by_cases e : k = u
      · subst e; omega
      · exact h.1 k (by omega) h3 h4
    · rcases h.2 with h5 | ⟨k, hk, h5⟩
      · exact Or.inl h5
      · exact Or.inr ⟨k, by omega, h5⟩

set_option maxHeartbeats 4000000 in
set_option maxRecDepth 100000 in
/-- bar -/
theorem c_X11_bar (l : Launch) (E : wE) (A : Nat → Nat) (n sz : Nat) (g : Nat → va_E) (i : Nat) (q : Nat → Int) (N : Nat → Int) (bk : Nat) (L : Nat → List (Nat × Nat)) (cz : Nat) (co br : Nat → Nat) (z : Int) (hi : i + 16 < n) (hO : g i = mO A i q) (hN : MN E A g i N) (hB : BooksM E A g i bk L) (hq1 : q 1 = (cz : Int)) (hC : ComM E A g i bk cz co br) (hz : I32 z) : Met l yX11_bar wsX11_bar ({ frames := 6, cells := 0, slots := 0, locals := 220 } : Room) (va_Pc [.ref (A (i)), .int (iI (z))] (wPre E A n sz g)) (va_Qi (fun r g' => (¬ (0 ≤ z ∧ z < (cz : Int)) → r = iI (-1)) ∧ (0 ≤ z ∧ z < (cz : Int) → ∃ b : Nat, r = iI (b : Int) ∧ LB (L (co z.toNat)) 0 (foA (LkM L co) cz (cz - 1 - z.toNat)) (chN (LkM L co) cz 1 (cz - 1 - z.toNat) 1) b) ∧ (∃ N' : Nat → Int, MN E A g' i N' ∧ ∀ x, x < 2 → N' x = N x) ∧ ∀ j, j ≠ i + 1 → g' j = g j) (wAt E A n) (wF A n sz)) 0 0 (wF A n sz) := by
  refine x_met (cc := cX11_bar) (maxL := 5) (ret := (some .int)) [.ref (A (i)), .int (iI (z))] (by decide) rfl (Nat.le_of_ble_eq_true rfl) ?_
  intro p e s m below meth c ls X hr hlk hnm hsz hW hl
  have hl : lv_has ls 5 [(0, .ref (A (i))), (1, .int (iI (z)))] := hl
  have lk_0 : ∀ w ∈ wsX110, w ∈ wsX11_bar := by decide +kernel
  have lk_1 : Cond.fieldLink RX11 127 (TX11 9).1 (TX11 9).2.1 (TX11 9).2.2.1 ∈ wsX11_bar := by decide +kernel
  have lk_2 : Cond.fieldLink RX11 36 (TX11 10).1 (TX11 10).2.1 (TX11 10).2.2.1 ∈ wsX11_bar := by decide +kernel
  have lk_3 : Cond.fieldLink RX11 24 (TX11 5).1 (TX11 5).2.1 (TX11 5).2.2.1 ∈ wsX11_bar := by decide +kernel
  have lk_4 : Cond.fieldLink RX11 27 (TX11 6).1 (TX11 6).2.1 (TX11 6).2.2.1 ∈ wsX11_bar := by decide +kernel
  have lk_5 : Cond.fieldLink RX11 30 (TX11 7).1 (TX11 7).2.1 (TX11 7).2.2.1 ∈ wsX11_bar := by decide +kernel
  have lk_6 : Cond.methodLink RX11 143 Lib.Math.max.name ∈ wsX11_bar := by decide +kernel
  have lk_7 : Cond.static Lib.Math.max.name ∈ wsX11_bar := by decide +kernel
  have lk_8 : Cond.initialized "java/lang/Math" ∈ wsX11_bar := by decide +kernel
  have lk_9 : Cond.code Lib.Math.max.name Lib.Math.max.code 2 (some .int) ∈ wsX11_bar := by decide +kernel
  have hO : g i = .inr (11, [.ref (A (i + 1)), .ref (A (i + 2)), .ref (A (i + 3)), .ref (A (i + 4)), .int (iI (q 0)), .ref (A (i + 5)), .ref (A (i + 6)), .ref (A (i + 7)), .ref (A (i + 8)), .int (iI (q 1)), .ref (A (i + 9)), .ref (A (i + 10)), .ref (A (i + 11)), .int (iI (q 2)), .ref (A (i + 12)), .ref (A (i + 13)), .int (iI (q 3)), .ref (A (i + 14)), .ref (A (i + 15)), .ref (A (i + 16)), .int (iI (q 4))]) := hO
  have hOg := hO
  have hfr : ∀ j, j ≠ i + 1 → g j = g j := fun _ _ => rfl
  have hoth : ∀ x, x < 2 → N x = N x := fun _ _ => rfl
  have hBo := hB
  obtain ⟨f5, f6, f7, f8, h5, h6, h7, h8, hbk, hbv⟩ := id hB
  have h5o := h5
  have h6o := h6
  have h7o := h7
  have h8o := h8
  have hCo := hC
  obtain ⟨f9, f10, h9, h10, hc10, hcv⟩ := id hC
  have h9o := h9
  have h10o := h10
  have hok0 : ∀ k, k < cz → bOK (LkM L co k) := fun k hk => by
    have hk2 := (hcv k hk).1
    exact ⟨(hbv _ hk2).1, fun u hu => ((hbv _ hk2).2.2.2.2 u hu).2.2⟩
  have hcap0 : ∀ k, k < cz → bE (LkM L co k) (fun _ => 1) ≤ 8000 ∧ (∀ b : Int, bBelow (LkM L co k) b ≤ 8000) ∧ ∀ b : Int, bGath (LkM L co k) b ≤ 8000000 := fun k hk => ⟨bOK_tot (hok0 k hk), fun b => bOK_below (hok0 k hk) b, fun b => bOK_gath (hok0 k hk) b⟩
  have hpos0 : ∀ k, k < cz → 0 < bE (LkM L co k) (fun _ => 1) := fun k hk => (hbv _ (hcv k hk).1).2.2.2.1
  have hA1 := foA_le (fun k hk => (hcap0 k hk).1) cz (Nat.le_refl _)
  have hA0 := foA_pos hpos0 cz (Nat.le_refl _)
  have hpc := pow_cap hc10
  have hz1 := hz.1
  have hz2 := hz.2
  refine lv_iload_n X.1 X.2.1 dX11_bar_0 rfl (lv_at hl 1 rfl) ?_
  refine x_if_lt (tgt := 12) X hz dX11_bar_1 (by decide) (fun b_1 => ?_) (fun b_1 => ?_)
  · refine x_iconst X dX11_bar_12 ?_
    exact x_iret X hr hlk hW (⟨fun _ => rfl, fun h => absurd h (by omega), ⟨N, hN, hoth⟩, hfr⟩) dX11_bar_13
  · refine lv_iload_n X.1 X.2.1 dX11_bar_4 rfl (lv_at hl 1 rfl) ?_
    refine lv_aload_n X.1 X.2.1 dX11_bar_5 rfl (lv_at hl 0 rfl) ?_
    refine x_get (C := RX11) (T := TX11) (N := 21) X hW (by omega) hO rfl lk_0 9 (by decide) lk_1 rfl dX11_bar_6 ?_
    refine x_seti ((cz : Int)) hq1 ?_
    refine x_icmp_lt (tgt := 14) X hz ⟨by omega, by omega⟩ dX11_bar_9 (by decide) (fun b_9 => ?_) (fun b_9 => ?_)
    · obtain ⟨t, ht⟩ : ∃ t, t = z.toNat := ⟨_, rfl⟩
      obtain ⟨hc1, hc2, hc3, hc4⟩ := hcv t (by omega)
      obtain ⟨hb1, hb5, hb8, hb9, hbq⟩ := hbv (co t) hc1
      have hA2 := foA_le (fun k hk => (hcap0 k hk).1) (cz - 1 - t) (by omega)
      have hpc2 := pow_cap (d := cz - 1 - t) (by omega)
      refine lv_aload_n X.1 X.2.1 dX11_bar_14 rfl (lv_at hl 0 rfl) ?_
      refine x_cv (x_runV (k := 0) (As := []) (rest := []) X hW (c_X11_bestFrom l E A n _ g i q N bk L cz co br hi hO hN (hB.frame (fun j a9 b9 => hfr j (by omega))) hq1 (hC.frame (hfr _ (by omega)) (hfr _ (by omega)))) (by omega) hO rfl gX11_bar_X11_bestFrom rfl rfl rfl (by decide +kernel) ⟨by decide, by decide⟩ rfl hl.1 rfl (Nat.le_of_ble_eq_true rfl) dX11_bar_15 ⟨Nat.zero_le _, Nat.zero_le _⟩) hW (fun g_15 H locs hp_15 hW => ?_)
      obtain ⟨⟨N_15, hN, hT, ho_15⟩, hf_15⟩ := hp_15
      have hoth := ho_15
      have hfr : ∀ j, j ≠ i + 1 → g_15 j = g j := fun j hj => (hf_15 j hj).trans (hfr j hj)
      have hO : g_15 i = .inr (11, [.ref (A (i + 1)), .ref (A (i + 2)), .ref (A (i + 3)), .ref (A (i + 4)), .int (iI (q 0)), .ref (A (i + 5)), .ref (A (i + 6)), .ref (A (i + 7)), .ref (A (i + 8)), .int (iI (q 1)), .ref (A (i + 9)), .ref (A (i + 10)), .ref (A (i + 11)), .int (iI (q 2)), .ref (A (i + 12)), .ref (A (i + 13)), .int (iI (q 3)), .ref (A (i + 14)), .ref (A (i + 15)), .ref (A (i + 16)), .int (iI (q 4))]) := by rw [hf_15 _ (by omega)]; exact hO
      have h5 : g_15 (i + 5) = aI E 16 f5 := by rw [hf_15 _ (by omega)]; exact h5
      have h6 : g_15 (i + 6) = aI E 128 f6 := by rw [hf_15 _ (by omega)]; exact h6
      have h7 : g_15 (i + 7) = aI E 128 f7 := by rw [hf_15 _ (by omega)]; exact h7
      have h8 : g_15 (i + 8) = aI E 16 f8 := by rw [hf_15 _ (by omega)]; exact h8
      have h9 : g_15 (i + 9) = aI E 10 f9 := by rw [hf_15 _ (by omega)]; exact h9
      have h10 : g_15 (i + 10) = aI E 10 f10 := by rw [hf_15 _ (by omega)]; exact h10
      refine lv_aload_n X.1 X.2.1 dX11_bar_18 rfl (lv_at hl 0 rfl) ?_
      refine x_get (C := RX11) (T := TX11) (N := 21) X hW (by omega) hO rfl lk_0 10 (by decide) lk_2 rfl dX11_bar_19 ?_
      refine lv_iload_n X.1 X.2.1 dX11_bar_22 rfl (lv_at hl 1 rfl) ?_
      refine x_iald X hW (by omega) h9 (v := iI (((co t : Nat) : Int))) t (by omega) (by omega) (by decide) hc3 dX11_bar_23 ?_
      refine lv_istore_n (lv' := [(2, .int (iI (((co t : Nat) : Int)))), (0, .ref (A (i))), (1, .int (iI (z)))]) X.1 X.2.1 dX11_bar_24 rfl hl (by decide) rfl (fun ls hl => ?_)
      refine x_iconst X dX11_bar_25 ?_
      refine x_seti (((0 : Nat) : Int)) rfl ?_
      refine lv_istore_n (lv' := [(3, .int (iI (((0 : Nat) : Int)))), (2, .int (iI (((co t : Nat) : Int)))), (0, .ref (A (i))), (1, .int (iI (z)))]) X.1 X.2.1 dX11_bar_26 rfl hl (by decide) rfl (fun ls hl => ?_)
      refine x_bipush X (by decide) dX11_bar_27 ?_
      refine lv_iload_n X.1 X.2.1 dX11_bar_29 rfl (lv_at hl 1 rfl) ?_
      refine x_imul X dX11_bar_30 ?_
      refine x_seti (((8 * co t + 0 : Nat) : Int)) (by omega) ?_
      refine lv_istore (lv' := [(4, .int (iI (((8 * co t + 0 : Nat) : Int)))), (3, .int (iI (((0 : Nat) : Int)))), (2, .int (iI (((co t : Nat) : Int)))), (0, .ref (A (i))), (1, .int (iI (z)))]) X.1 X.2.1 dX11_bar_31 hl (by decide) rfl (fun ls hl => ?_)
      have loop_33 : ∀ (fuel : Nat) (u : Nat) (b : Nat) (N2 : Nat → Int) (g1 : Nat → va_E) (H : Heap) (locs : List Loc) (ls : Array Slot), ((L (co t)).length - u) < fuel → (u ≤ (L (co t)).length) → (b ≤ 1001) → (LBt (L (co t)) (foA (LkM L co) cz (cz - 1 - t)) (chN (LkM L co) cz 1 (cz - 1 - t) 1) u b) → (MN E A g1 i N2) → (N2 (11 + t) = (((chN (LkM L co) cz 1 (cz - 1 - t) 1) : Nat) : Int)) → (N2 (31 + t) = (((foA (LkM L co) cz (cz - 1 - t)) : Nat) : Int)) → (∀ x, x < 2 → N2 x = N x) → (∀ j, j ≠ i + 1 → g1 j = g j) → wH E (wF A n sz) A n s g1 H locs → lv_has ls 5 [(0, .ref (A (i))), (1, .int (iI (z))), (2, .int (iI (((co t : Nat) : Int)))), (3, .int (iI (((b : Nat) : Int)))), (4, .int (iI (((8 * co t + u : Nat) : Int))))] → W p l e ({ frames := 6, cells := 0, slots := 0, locals := 220 } : Room) s m [.ref (A (i)), .int (iI (z))].toArray below meth c H locs 0 0 (MQ below (va_Qi (fun r g' => (¬ (0 ≤ z ∧ z < (cz : Int)) → r = iI (-1)) ∧ (0 ≤ z ∧ z < (cz : Int) → ∃ b : Nat, r = iI (b : Int) ∧ LB (L (co z.toNat)) 0 (foA (LkM L co) cz (cz - 1 - z.toNat)) (chN (LkM L co) cz 1 (cz - 1 - z.toNat) 1) b) ∧ (∃ N' : Nat → Int, MN E A g' i N' ∧ ∀ x, x < 2 → N' x = N x) ∧ ∀ j, j ≠ i + 1 → g' j = g j) (wAt E A n) (wF A n sz)) [.ref (A (i)), .int (iI (z))].toArray s 0 0 (wF A n sz)) (F0 m 33 ls []) := by
        intro fuel
        induction fuel with
        | zero => intro u b N2 g1 H locs ls hm; exact absurd hm (Nat.not_lt_zero _)
        | succ fuel ih_33 =>
          intro u b N2 g1 H locs ls hm hu hb2 hLB hN v_11___t v_31___t hoth hfr hW hl
          have hO : g1 i = .inr (11, [.ref (A (i + 1)), .ref (A (i + 2)), .ref (A (i + 3)), .ref (A (i + 4)), .int (iI (q 0)), .ref (A (i + 5)), .ref (A (i + 6)), .ref (A (i + 7)), .ref (A (i + 8)), .int (iI (q 1)), .ref (A (i + 9)), .ref (A (i + 10)), .ref (A (i + 11)), .int (iI (q 2)), .ref (A (i + 12)), .ref (A (i + 13)), .int (iI (q 3)), .ref (A (i + 14)), .ref (A (i + 15)), .ref (A (i + 16)), .int (iI (q 4))]) := (hfr _ (by omega)).trans hOg
          have h5 : g1 (i + 5) = aI E 16 f5 := (hfr _ (by omega)).trans h5o
          have h6 : g1 (i + 6) = aI E 128 f6 := (hfr _ (by omega)).trans h6o
          have h7 : g1 (i + 7) = aI E 128 f7 := (hfr _ (by omega)).trans h7o
          have h8 : g1 (i + 8) = aI E 16 f8 := (hfr _ (by omega)).trans h8o
          have h9 : g1 (i + 9) = aI E 10 f9 := (hfr _ (by omega)).trans h9o
          have h10 : g1 (i + 10) = aI E 10 f10 := (hfr _ (by omega)).trans h10o
          refine lv_iload X.1 X.2.1 dX11_bar_33 (lv_at hl 4 rfl) ?_
          refine x_bipush X (by decide) dX11_bar_35 ?_
          refine lv_iload_n X.1 X.2.1 dX11_bar_37 rfl (lv_at hl 2 rfl) ?_
          refine x_imul X dX11_bar_38 ?_
          refine lv_aload_n X.1 X.2.1 dX11_bar_39 rfl (lv_at hl 0 rfl) ?_
          refine x_get (C := RX11) (T := TX11) (N := 21) X hW (by omega) hO rfl lk_0 5 (by decide) lk_3 rfl dX11_bar_40 ?_
          refine lv_iload_n X.1 X.2.1 dX11_bar_43 rfl (lv_at hl 2 rfl) ?_
          refine x_iald X hW (by omega) h5 (v := iI ((((L (co t)).length : Nat) : Int))) (co t) (by omega) (by omega) (by decide) hb5 dX11_bar_44 ?_
          refine x_iadd X dX11_bar_45 ?_
          refine x_icmp_ge (tgt := 118) X ⟨by omega, by omega⟩ ⟨by omega, by omega⟩ dX11_bar_46 (by decide) (fun b_46 => ?_) (fun b_46 => ?_)
          · refine lv_iload_n X.1 X.2.1 dX11_bar_118 rfl (lv_at hl 3 rfl) ?_
            exact x_iret X hr hlk hW (⟨fun h => absurd (show 0 ≤ z ∧ z < (cz : Int) by omega) h, fun _ => ⟨b, rfl, by rw [← ht]; rw [show u = (L (co t)).length from by omega] at hLB; exact LBt_end (hok0 t (by omega)) hLB⟩, ⟨N2, hN, hoth⟩, hfr⟩) dX11_bar_119
          · have hu2 : u < (L (co t)).length := by omega
            obtain ⟨q6, q7, q8, q9⟩ := hbq u hu2
            have hax : (foA (LkM L co) cz (cz - 1 - t)) * ((((L (co t))).getD u (0, 0)).1 : Nat) ≤ 10 ^ 53 * 1000 := Nat.mul_le_mul (by omega) q8
            refine lv_aload_n X.1 X.2.1 dX11_bar_49 rfl (lv_at hl 0 rfl) ?_
            refine x_iconst X dX11_bar_50 ?_
            refine x_lconst X 0 (by decide) dX11_bar_51 ?_
            refine x_cv (x_runV (k := 2) (As := [.int (iI (2)), .long (lI (0))]) (rest := []) X hW (c_X11_set l E A n _ g1 i (2) q N2 (0) hi hO (by omega) hN (by decide) (by decide)) (by omega) hO rfl gX11_bar_X11_set rfl rfl rfl (by decide +kernel) ⟨by decide, by decide⟩ rfl hl.1 rfl (Nat.le_of_ble_eq_true rfl) dX11_bar_52 ⟨Nat.zero_le _, Nat.zero_le _⟩) hW (fun g_52 H locs hp_52 hW => ?_)
            obtain ⟨hN, hf_52⟩ := hp_52
            obtain ⟨N_52, hN_52⟩ : ∃ N9 : Nat → Int, N9 = va_up N2 2 (0) := ⟨_, rfl⟩
            rw [← hN_52] at hN
            have hO : g_52 i = .inr (11, [.ref (A (i + 1)), .ref (A (i + 2)), .ref (A (i + 3)), .ref (A (i + 4)), .int (iI (q 0)), .ref (A (i + 5)), .ref (A (i + 6)), .ref (A (i + 7)), .ref (A (i + 8)), .int (iI (q 1)), .ref (A (i + 9)), .ref (A (i + 10)), .ref (A (i + 11)), .int (iI (q 2)), .ref (A (i + 12)), .ref (A (i + 13)), .int (iI (q 3)), .ref (A (i + 14)), .ref (A (i + 15)), .ref (A (i + 16)), .int (iI (q 4))]) := by rw [hf_52 _ (by omega)]; exact hO
            have h5 : g_52 (i + 5) = aI E 16 f5 := by rw [hf_52 _ (by omega)]; exact h5
            have h6 : g_52 (i + 6) = aI E 128 f6 := by rw [hf_52 _ (by omega)]; exact h6
            have h7 : g_52 (i + 7) = aI E 128 f7 := by rw [hf_52 _ (by omega)]; exact h7
            have h8 : g_52 (i + 8) = aI E 16 f8 := by rw [hf_52 _ (by omega)]; exact h8
            have h9 : g_52 (i + 9) = aI E 10 f9 := by rw [hf_52 _ (by omega)]; exact h9
            have h10 : g_52 (i + 10) = aI E 10 f10 := by rw [hf_52 _ (by omega)]; exact h10
            have v_2 : N_52 2 = 0 := by rw [hN_52, va_up_self]
            have v_11___t : N_52 (11 + t) = (((chN (LkM L co) cz 1 (cz - 1 - t) 1) : Nat) : Int) := by rw [hN_52, va_up_ne _ _ (by omega)]; exact v_11___t
            have v_31___t : N_52 (31 + t) = (((foA (LkM L co) cz (cz - 1 - t)) : Nat) : Int) := by rw [hN_52, va_up_ne _ _ (by omega)]; exact v_31___t
            have hoth : ∀ x, x < 2 → N_52 x = N x := fun x hx => (congrFun hN_52 x).trans ((va_up_ne _ _ (by omega)).trans (hoth x hx))
            have hfr : ∀ j, j ≠ i + 1 → g_52 j = g j := fun j hj => (hf_52 j hj).trans (hfr j hj)
            refine lv_aload_n X.1 X.2.1 dX11_bar_55 rfl (lv_at hl 0 rfl) ?_
            refine x_iconst X dX11_bar_56 ?_
            refine x_bipush X (by decide) dX11_bar_57 ?_
            refine lv_iload_n X.1 X.2.1 dX11_bar_59 rfl (lv_at hl 1 rfl) ?_
            refine x_iadd X dX11_bar_60 ?_
            refine x_iconst X dX11_bar_61 ?_
            refine x_iadd X dX11_bar_62 ?_
            refine x_seti (((31 + t : Nat) : Int)) (by omega) ?_
            refine lv_aload_n X.1 X.2.1 dX11_bar_63 rfl (lv_at hl 0 rfl) ?_
            refine x_get (C := RX11) (T := TX11) (N := 21) X hW (by omega) hO rfl lk_0 6 (by decide) lk_4 rfl dX11_bar_64 ?_
            refine lv_iload X.1 X.2.1 dX11_bar_67 (lv_at hl 4 rfl) ?_
            refine x_iald X hW (by omega) h6 (v := iI (((((((L (co t))).getD u (0, 0)).1 : Nat) : Nat) : Int))) (8 * co t + u) (by omega) (by omega) (by decide) q6 dX11_bar_69 ?_
            refine x_i2l X ⟨by omega, by omega⟩ dX11_bar_70 ?_
            refine x_cv (x_runV (k := 3) (As := [.int (iI (2)), .int (iI (((31 + t : Nat) : Int))), .long (lI (((((((L (co t))).getD u (0, 0)).1 : Nat) : Nat) : Int)))]) (rest := []) X hW (c_X11_more l E A n _ g_52 i (2) (31 + t) q N_52 (((((((L (co t))).getD u (0, 0)).1 : Nat) : Nat) : Int)) hi hO (by omega) (by omega) (by omega) hN (by omega) (by omega) (by rw [v_2, v_31___t, Int.zero_add, ← Int.natCast_mul]; omega) (by rw [v_2, v_31___t, Int.zero_add, ← Int.natCast_mul]; omega)) (by omega) hO rfl gX11_bar_X11_more rfl rfl rfl (by decide +kernel) ⟨by decide, by decide⟩ rfl hl.1 rfl (Nat.le_of_ble_eq_true rfl) dX11_bar_71 ⟨Nat.zero_le _, Nat.zero_le _⟩) hW (fun g_71 H locs hp_71 hW => ?_)
            obtain ⟨hN, hf_71⟩ := hp_71
            obtain ⟨N_71, hN_71⟩ : ∃ N9 : Nat → Int, N9 = va_up N_52 2 (N_52 2 + N_52 (31 + t) * (((((((L (co t))).getD u (0, 0)).1 : Nat) : Nat) : Int))) := ⟨_, rfl⟩
            rw [← hN_71] at hN
            have hO : g_71 i = .inr (11, [.ref (A (i + 1)), .ref (A (i + 2)), .ref (A (i + 3)), .ref (A (i + 4)), .int (iI (q 0)), .ref (A (i + 5)), .ref (A (i + 6)), .ref (A (i + 7)), .ref (A (i + 8)), .int (iI (q 1)), .ref (A (i + 9)), .ref (A (i + 10)), .ref (A (i + 11)), .int (iI (q 2)), .ref (A (i + 12)), .ref (A (i + 13)), .int (iI (q 3)), .ref (A (i + 14)), .ref (A (i + 15)), .ref (A (i + 16)), .int (iI (q 4))]) := by rw [hf_71 _ (by omega)]; exact hO
            have h5 : g_71 (i + 5) = aI E 16 f5 := by rw [hf_71 _ (by omega)]; exact h5
            have h6 : g_71 (i + 6) = aI E 128 f6 := by rw [hf_71 _ (by omega)]; exact h6
            have h7 : g_71 (i + 7) = aI E 128 f7 := by rw [hf_71 _ (by omega)]; exact h7
            have h8 : g_71 (i + 8) = aI E 16 f8 := by rw [hf_71 _ (by omega)]; exact h8
            have h9 : g_71 (i + 9) = aI E 10 f9 := by rw [hf_71 _ (by omega)]; exact h9
            have h10 : g_71 (i + 10) = aI E 10 f10 := by rw [hf_71 _ (by omega)]; exact h10
            have v_2 : N_71 2 = (((foA (LkM L co) cz (cz - 1 - t)) * ((((L (co t))).getD u (0, 0)).1 : Nat) : Nat) : Int) := by rw [hN_71, va_up_self, v_2, v_31___t, Int.zero_add, ← Int.natCast_mul]
            have v_11___t : N_71 (11 + t) = (((chN (LkM L co) cz 1 (cz - 1 - t) 1) : Nat) : Int) := by rw [hN_71, va_up_ne _ _ (by omega)]; exact v_11___t
            have v_31___t : N_71 (31 + t) = (((foA (LkM L co) cz (cz - 1 - t)) : Nat) : Int) := by rw [hN_71, va_up_ne _ _ (by omega)]; exact v_31___t
            have hoth : ∀ x, x < 2 → N_71 x = N x := fun x hx => (congrFun hN_71 x).trans ((va_up_ne _ _ (by omega)).trans (hoth x hx))
            have hfr : ∀ j, j ≠ i + 1 → g_71 j = g j := fun j hj => (hf_71 j hj).trans (hfr j hj)
            refine lv_aload_n X.1 X.2.1 dX11_bar_74 rfl (lv_at hl 0 rfl) ?_
            refine x_get (C := RX11) (T := TX11) (N := 21) X hW (by omega) hO rfl lk_0 7 (by decide) lk_5 rfl dX11_bar_75 ?_
            refine lv_iload X.1 X.2.1 dX11_bar_78 (lv_at hl 4 rfl) ?_
            refine x_iald X hW (by omega) h7 (v := iI (((((((L (co t))).getD u (0, 0)).2 : Nat) : Nat) : Int))) (8 * co t + u) (by omega) (by omega) (by decide) q7 dX11_bar_80 ?_
            refine x_if_le (tgt := 112) X ⟨by omega, by omega⟩ dX11_bar_81 (by decide) (fun b_81 => ?_) (fun b_81 => ?_)
            · refine lv_iinc (v := iI (((8 * co t + (u + 1) : Nat) : Int))) (lv' := [(4, .int (iI (((8 * co t + (u + 1) : Nat) : Int)))), (0, .ref (A (i))), (1, .int (iI (z))), (2, .int (iI (((co t : Nat) : Int)))), (3, .int (iI (((b : Nat) : Int))))]) X.1 X.2.1 dX11_bar_112 hl (k := 4) rfl (by rw [show (Int32.ofInt (1)) = iI (1) from rfl, iI_add]; first | rfl | (congr 1; omega)) (by decide) rfl (fun ls hl => ?_)
              refine lv_goto (tgt := 33) X.1 X.2.1 dX11_bar_115 (by decide) ?_
              exact ih_33 (u + 1) b N_71 g_71 _ _ _ (by omega) (by omega) hb2 (LBt_skip hLB (fun h9 => by first | exact hge9 | omega)) hN v_11___t v_31___t hoth hfr hW (lv_sub hl [1, 2, 3, 4, 0] rfl)
            · refine lv_aload_n X.1 X.2.1 dX11_bar_84 rfl (lv_at hl 0 rfl) ?_
              refine x_iconst X dX11_bar_85 ?_
              refine x_bipush X (by decide) dX11_bar_86 ?_
              refine lv_iload_n X.1 X.2.1 dX11_bar_88 rfl (lv_at hl 1 rfl) ?_
              refine x_iadd X dX11_bar_89 ?_
              refine x_iconst X dX11_bar_90 ?_
              refine x_iadd X dX11_bar_91 ?_
              refine x_seti (((11 + t : Nat) : Int)) (by omega) ?_
              refine x_ci (x_runV (k := 2) (As := [.int (iI (2)), .int (iI (((11 + t : Nat) : Int)))]) (rest := []) X hW (c_X11_compared l E A n _ g_71 i (2) (11 + t) q N_71 hi hO (by omega) (by omega) hN) (by omega) hO rfl gX11_bar_X11_compared rfl rfl rfl (by decide +kernel) ⟨by decide, by decide⟩ rfl hl.1 rfl (Nat.le_of_ble_eq_true rfl) dX11_bar_92 ⟨Nat.zero_le _, Nat.zero_le _⟩) hW (fun r_92 g_92 H locs hp_92 hW => ?_)
              obtain ⟨hr_92, he_92⟩ := hp_92
              rw [he_92] at hW
              rw [v_2, v_11___t] at hr_92
              subst hr_92
              refine x_if_ge (tgt := 112) X (cmp_rng _ _) dX11_bar_95 (by decide) (fun b_95 => ?_) (fun b_95 => ?_)
              · have hge9 := cmp_ge (Int.not_lt.mpr b_95)
                refine lv_iinc (v := iI (((8 * co t + (u + 1) : Nat) : Int))) (lv' := [(4, .int (iI (((8 * co t + (u + 1) : Nat) : Int)))), (0, .ref (A (i))), (1, .int (iI (z))), (2, .int (iI (((co t : Nat) : Int)))), (3, .int (iI (((b : Nat) : Int))))]) X.1 X.2.1 dX11_bar_112 hl (k := 4) rfl (by rw [show (Int32.ofInt (1)) = iI (1) from rfl, iI_add]; first | rfl | (congr 1; omega)) (by decide) rfl (fun ls hl => ?_)
                refine lv_goto (tgt := 33) X.1 X.2.1 dX11_bar_115 (by decide) ?_
                exact ih_33 (u + 1) b N_71 g_71 _ _ _ (by omega) (by omega) hb2 (LBt_skip hLB (fun h9 => by first | exact hge9 | omega)) hN v_11___t v_31___t hoth hfr hW (lv_sub hl [1, 2, 3, 4, 0] rfl)
              · have hlt9 := cmp_lt (Int.not_le.mp b_95)
                refine lv_iload_n X.1 X.2.1 dX11_bar_98 rfl (lv_at hl 3 rfl) ?_
                refine lv_aload_n X.1 X.2.1 dX11_bar_99 rfl (lv_at hl 0 rfl) ?_
                refine x_get (C := RX11) (T := TX11) (N := 21) X hW (by omega) hO rfl lk_0 6 (by decide) lk_4 rfl dX11_bar_100 ?_
                refine lv_iload X.1 X.2.1 dX11_bar_103 (lv_at hl 4 rfl) ?_
                refine x_iald X hW (by omega) h6 (v := iI (((((((L (co t))).getD u (0, 0)).1 : Nat) : Nat) : Int))) (8 * co t + u) (by omega) (by omega) (by decide) q6 dX11_bar_105 ?_
                refine x_iconst X dX11_bar_106 ?_
                refine x_iadd X dX11_bar_107 ?_
                refine x_seti (((((((L (co t))).getD u (0, 0)).1 : Nat) + 1 : Nat) : Int)) (by omega) ?_
                refine x_mmaxi X hl.1 ⟨by omega, by omega⟩ ⟨by omega, by omega⟩ lk_6 lk_7 lk_8 lk_9 (by decide) (Nat.le_of_ble_eq_true rfl) (Nat.zero_le _) (Nat.zero_le _) dX11_bar_108 ?_
                refine x_seti (((if b < ((((L (co t))).getD u (0, 0)).1 : Nat) + 1 then ((((L (co t))).getD u (0, 0)).1 : Nat) + 1 else b : Nat) : Int)) (by split <;> (split <;> omega)) ?_
                refine lv_istore_n (lv' := [(3, .int (iI (((if b < ((((L (co t))).getD u (0, 0)).1 : Nat) + 1 then ((((L (co t))).getD u (0, 0)).1 : Nat) + 1 else b : Nat) : Int)))), (0, .ref (A (i))), (1, .int (iI (z))), (2, .int (iI (((co t : Nat) : Int)))), (4, .int (iI (((8 * co t + u : Nat) : Int))))]) X.1 X.2.1 dX11_bar_111 rfl hl (by decide) rfl (fun ls hl => ?_)
                refine lv_iinc (v := iI (((8 * co t + (u + 1) : Nat) : Int))) (lv' := [(4, .int (iI (((8 * co t + (u + 1) : Nat) : Int)))), (3, .int (iI (((if b < ((((L (co t))).getD u (0, 0)).1 : Nat) + 1 then ((((L (co t))).getD u (0, 0)).1 : Nat) + 1 else b : Nat) : Int)))), (0, .ref (A (i))), (1, .int (iI (z))), (2, .int (iI (((co t : Nat) : Int))))]) X.1 X.2.1 dX11_bar_112 hl (k := 4) rfl (by rw [show (Int32.ofInt (1)) = iI (1) from rfl, iI_add]; first | rfl | (congr 1; omega)) (by decide) rfl (fun ls hl => ?_)
                refine lv_goto (tgt := 33) X.1 X.2.1 dX11_bar_115 (by decide) ?_
                exact ih_33 (u + 1) (if b < ((((L (co t))).getD u (0, 0)).1 : Nat) + 1 then ((((L (co t))).getD u (0, 0)).1 : Nat) + 1 else b) N_71 g_71 _ _ _ (by omega) (by omega) (by split <;> omega) (LBt_take hLB (by omega) hlt9) hN v_11___t v_31___t hoth hfr hW (lv_sub hl [2, 3, 4, 1, 0] rfl)
      exact loop_33 _ 0 0 N_15 g_15 _ _ _ (Nat.lt_succ_self _) (Nat.zero_le _) (by omega) (LBt_0 _ _ _) hN (by rw [show 11 + t = 10 + (cz - (cz - 1 - t)) from by omega]; exact (hT (cz - 1 - t) (by omega)).1) (by rw [show 31 + t = 30 + (cz - (cz - 1 - t)) from by omega]; exact (hT (cz - 1 - t) (by omega)).2) hoth hfr hW (lv_sub hl [3, 4, 2, 1, 0] rfl)
    · refine x_iconst X dX11_bar_12 ?_
      exact x_iret X hr hlk hW (⟨fun _ => rfl, fun h => absurd h (by omega), ⟨N, hN, hoth⟩, hfr⟩) dX11_bar_13
