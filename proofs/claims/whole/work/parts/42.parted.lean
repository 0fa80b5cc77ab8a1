def qh (u k : Nat) : Nat := u / 1000000000 ^ k * 1000000000 ^ k
theorem qh_dg (u k : Nat) {j : Nat} : dg (qh u k) j = if k ≤ j then dg u j else 0 := by
  unfold qh dg
  by_cases h : k ≤ j
  · rw [if_pos h]
    obtain ⟨d, rfl⟩ : ∃ d, j = k + d := ⟨j - k, by omega⟩
    rw [Nat.pow_add, ← Nat.div_div_eq_div_mul, ← Nat.div_div_eq_div_mul, Nat.mul_div_cancel _ (bp k)]
  · rw [if_neg h]
    obtain ⟨d, rfl⟩ : ∃ d, k = j + 1 + d := ⟨k - j - 1, by omega⟩
    have e : u / 1000000000 ^ (j + 1 + d) * 1000000000 ^ (j + 1 + d) = (u / 1000000000 ^ (j + 1 + d) * 1000000000 ^ d * 1000000000) * 1000000000 ^ j := by
      rw [show j + 1 + d = d + 1 + j from by omega, Nat.pow_add, Nat.pow_succ, Nat.mul_assoc, Nat.mul_assoc, Nat.mul_assoc]
    rw [e, Nat.mul_div_cancel _ (bp j), Nat.mul_mod_left]
theorem qh_le (u k : Nat) : qh u k ≤ u := Nat.div_mul_le_self _ _
theorem qh_0 (u : Nat) : qh u 0 = u := by unfold qh; rw [Nat.pow_zero, Nat.div_one, Nat.mul_one]
theorem qh_10 {u : Nat} (h : u < 10 ^ 80) : qh u 10 = 0 := by unfold qh; rw [Nat.div_eq_of_lt (by omega), Nat.zero_mul]
theorem sh_dg (D d : Nat) (hd : d < 1000000000) (j : Nat) : dg (D * 1000000000 + d) j = if j = 0 then d else dg D (j - 1) := by
  by_cases h : j = 0
  · subst h; rw [if_pos rfl]; unfold dg; rw [Nat.pow_zero, Nat.div_one]; omega
  · rw [if_neg h]
    obtain ⟨k, rfl⟩ : ∃ k, j = k + 1 := ⟨j - 1, by omega⟩
    unfold dg
    rw [Nat.add_sub_cancel, show 1000000000 ^ (k + 1) = 1000000000 * 1000000000 ^ k from by rw [Nat.pow_succ, Nat.mul_comm], ← Nat.div_div_eq_div_mul]
    congr 2
    omega
theorem ud5 {nf : Nat → Int64} {b k : Nat} {z : Int64} (j : Nat) : vp_updL nf (b + k) z (b + j) = if j = k then z else nf (b + j) := by
  unfold vp_updL
  by_cases h : j = k
  · subst h; rw [if_pos rfl, if_pos rfl]
  · rw [if_neg (by omega), if_neg h]

set_option maxHeartbeats 4000000 in
set_option maxRecDepth 100000 in
/-- parted: number a becomes its part by number b -/
theorem c_X11_parted (l : Launch) (E : wE) (A : Nat → Nat) (n sz : Nat) (g : Nat → va_E) (i a b : Nat) (q : Nat → Int) (N : Nat → Int) (v w : Nat) (hi : i + 16 < n) (hO : g i = mO A i q) (ha : a < 4000) (hbb : b < 4000) (hab : a ≠ b) (ha5 : a ≠ 5) (ha6 : a ≠ 6) (ha7 : a ≠ 7) (hb5 : b ≠ 5) (hb6 : b ≠ 6) (hb7 : b ≠ 7) (hN : MN E A g i N) (hv : N a = (v : Int)) (hwv : N b = (w : Int)) (hw : 0 < w) (hw6 : w < 10 ^ 60) (hv8 : v < 10 ^ 80) : Met l yX11_parted wsX11_parted ({ frames := 4, cells := 0, slots := 0, locals := 140 } : Room) (va_Pc [.ref (A (i)), .int (iI ((a : Int))), .int (iI ((b : Int)))] (wPre E A n sz g)) (va_Qv (fun g' => (∃ N' : Nat → Int, MN E A g' i N' ∧ N' a = ((v / w : Nat) : Int) ∧ ∀ x, x ≠ a → x ≠ 5 → x ≠ 6 → x ≠ 7 → N' x = N x) ∧ ∀ j, j ≠ i + 1 → g' j = g j) (wAt E A n) (wF A n sz)) 0 0 (wF A n sz) := by
  refine x_met (cc := cX11_parted) (maxL := 10) (ret := none) [.ref (A (i)), .int (iI ((a : Int))), .int (iI ((b : Int)))] (by decide) rfl (Nat.le_of_ble_eq_true rfl) ?_
  intro p e s m below meth c ls X hr hlk hnm hsz hW hl
  have hl : lv_has ls 10 [(0, .ref (A (i))), (1, .int (iI ((a : Int)))), (2, .int (iI ((b : Int))))] := hl
  have lk_0 : ∀ w ∈ wsX110, w ∈ wsX11_parted := by decide +kernel
  have lk_1 : Cond.fieldLink RX11 10 (TX11 0).1 (TX11 0).2.1 (TX11 0).2.2.1 ∈ wsX11_parted := by decide +kernel
  have lk_2 : Cond.constantLong RX11 81 (999999999) ∈ wsX11_parted := by decide +kernel
  have lk_3 : Cond.constantLong RX11 79 (2) ∈ wsX11_parted := by decide +kernel
  have hO : g i = .inr (11, [.ref (A (i + 1)), .ref (A (i + 2)), .ref (A (i + 3)), .ref (A (i + 4)), .int (iI (q 0)), .ref (A (i + 5)), .ref (A (i + 6)), .ref (A (i + 7)), .ref (A (i + 8)), .int (iI (q 1)), .ref (A (i + 9)), .ref (A (i + 10)), .ref (A (i + 11)), .int (iI (q 2)), .ref (A (i + 12)), .ref (A (i + 13)), .int (iI (q 3)), .ref (A (i + 14)), .ref (A (i + 15)), .ref (A (i + 16)), .int (iI (q 4))]) := hO
  have hOg := hO
  refine lv_aload_n X.1 X.2.1 dX11_parted_0 rfl (lv_at hl 0 rfl) ?_
  refine x_iconst X dX11_parted_1 ?_
  refine x_lconst X 0 (by decide) dX11_parted_2 ?_
  refine x_cv (x_runV (k := 2) (As := [.int (iI (5)), .long (lI (0))]) (rest := []) X hW (c_X11_set l E A n _ g i 5 q N 0 hi hO (by omega) hN (by omega) (by omega)) (by omega) hO rfl gX11_parted_X11_set rfl rfl rfl (by decide +kernel) ⟨by decide, by decide⟩ rfl hl.1 rfl (Nat.le_of_ble_eq_true rfl) dX11_parted_3 ⟨Nat.zero_le _, Nat.zero_le _⟩) hW (fun g_3 H locs hp_3 hW => ?_)
  obtain ⟨hN, hf_3⟩ := hp_3
  obtain ⟨N_3, hN_3⟩ : ∃ N9 : Nat → Int, N9 = va_up N 5 (0) := ⟨_, rfl⟩
  rw [← hN_3] at hN
  have hO : g_3 i = .inr (11, [.ref (A (i + 1)), .ref (A (i + 2)), .ref (A (i + 3)), .ref (A (i + 4)), .int (iI (q 0)), .ref (A (i + 5)), .ref (A (i + 6)), .ref (A (i + 7)), .ref (A (i + 8)), .int (iI (q 1)), .ref (A (i + 9)), .ref (A (i + 10)), .ref (A (i + 11)), .int (iI (q 2)), .ref (A (i + 12)), .ref (A (i + 13)), .int (iI (q 3)), .ref (A (i + 14)), .ref (A (i + 15)), .ref (A (i + 16)), .int (iI (q 4))]) := by rw [hf_3 _ (by omega)]; exact hO
  have v_5 : N_3 5 = 0 := by rw [hN_3, va_up_self]
  refine lv_aload_n X.1 X.2.1 dX11_parted_6 rfl (lv_at hl 0 rfl) ?_
  refine x_bipush X (by decide) dX11_parted_7 ?_
  refine x_lconst X 0 (by decide) dX11_parted_9 ?_
  refine x_cv (x_runV (k := 2) (As := [.int (iI (6)), .long (lI (0))]) (rest := []) X hW (c_X11_set l E A n _ g_3 i 6 q N_3 0 hi hO (by omega) hN (by omega) (by omega)) (by omega) hO rfl gX11_parted_X11_set rfl rfl rfl (by decide +kernel) ⟨by decide, by decide⟩ rfl hl.1 rfl (Nat.le_of_ble_eq_true rfl) dX11_parted_10 ⟨Nat.zero_le _, Nat.zero_le _⟩) hW (fun g_10 H locs hp_10 hW => ?_)
  obtain ⟨hN, hf_10⟩ := hp_10
  obtain ⟨N_10, hN_10⟩ : ∃ N9 : Nat → Int, N9 = va_up N_3 6 (0) := ⟨_, rfl⟩
  rw [← hN_10] at hN
  have hO : g_10 i = .inr (11, [.ref (A (i + 1)), .ref (A (i + 2)), .ref (A (i + 3)), .ref (A (i + 4)), .int (iI (q 0)), .ref (A (i + 5)), .ref (A (i + 6)), .ref (A (i + 7)), .ref (A (i + 8)), .int (iI (q 1)), .ref (A (i + 9)), .ref (A (i + 10)), .ref (A (i + 11)), .int (iI (q 2)), .ref (A (i + 12)), .ref (A (i + 13)), .int (iI (q 3)), .ref (A (i + 14)), .ref (A (i + 15)), .ref (A (i + 16)), .int (iI (q 4))]) := by rw [hf_10 _ (by omega)]; exact hO
  have v_5 : N_10 5 = 0 := by rw [hN_10, va_up_ne _ _ (by omega)]; exact v_5
  have v_6 : N_10 6 = 0 := by rw [hN_10, va_up_self]
  have hoth : ∀ x, x ≠ 5 → x ≠ 6 → x ≠ 7 → N_10 x = N x := fun x a5 a6 a7 => by rw [hN_10, va_up_ne _ _ (by omega), hN_3, va_up_ne _ _ (by omega)]
  have hfr : ∀ j, j ≠ i + 1 → g_10 j = g j := fun j hj => (hf_10 j hj).trans (hf_3 j hj)
  refine x_bipush X (by decide) dX11_parted_13 ?_
  refine x_seti (((10 : Nat) : Int) - 1) rfl ?_
  refine lv_istore_n (lv' := [(3, .int (iI (((10 : Nat) : Int) - 1))), (0, .ref (A (i))), (1, .int (iI ((a : Int)))), (2, .int (iI ((b : Int))))]) X.1 X.2.1 dX11_parted_15 rfl hl (by decide) rfl (fun ls hl => ?_)
  have loop_16 : ∀ (fuel : Nat) (k : Nat) (Nw : Nat → Int) (gw : Nat → va_E) (H : Heap) (locs : List Loc) (ls : Array Slot), (k) < fuel → (k ≤ 10) → (MN E A gw i Nw) → (Nw 5 = ((dvR v w k : Nat) : Int)) → (Nw 6 = ((qh (v / w) k : Nat) : Int)) → (∀ x, x ≠ 5 → x ≠ 6 → x ≠ 7 → Nw x = N x) → (∀ j, j ≠ i + 1 → gw j = g j) → wH E (wF A n sz) A n s gw H locs → lv_has ls 10 [(0, .ref (A (i))), (1, .int (iI ((a : Int)))), (2, .int (iI ((b : Int)))), (3, .int (iI ((k : Int) - 1)))] → W p l e ({ frames := 4, cells := 0, slots := 0, locals := 140 } : Room) s m [.ref (A (i)), .int (iI ((a : Int))), .int (iI ((b : Int)))].toArray below meth c H locs 0 0 (MQ below (va_Qv (fun g' => (∃ N' : Nat → Int, MN E A g' i N' ∧ N' a = ((v / w : Nat) : Int) ∧ ∀ x, x ≠ a → x ≠ 5 → x ≠ 6 → x ≠ 7 → N' x = N x) ∧ ∀ j, j ≠ i + 1 → g' j = g j) (wAt E A n) (wF A n sz)) [.ref (A (i)), .int (iI ((a : Int))), .int (iI ((b : Int)))].toArray s 0 0 (wF A n sz)) (F0 m 16 ls []) := by
    intro fuel
    induction fuel with
    | zero => intro k Nw gw H locs ls hm; exact absurd hm (Nat.not_lt_zero _)
    | succ fuel ih_16 =>
      intro k Nw gw H locs ls hm hk hN v5 v6 hoth hfr hW hl
      have hO : gw i = .inr (11, [.ref (A (i + 1)), .ref (A (i + 2)), .ref (A (i + 3)), .ref (A (i + 4)), .int (iI (q 0)), .ref (A (i + 5)), .ref (A (i + 6)), .ref (A (i + 7)), .ref (A (i + 8)), .int (iI (q 1)), .ref (A (i + 9)), .ref (A (i + 10)), .ref (A (i + 11)), .int (iI (q 2)), .ref (A (i + 12)), .ref (A (i + 13)), .int (iI (q 3)), .ref (A (i + 14)), .ref (A (i + 15)), .ref (A (i + 16)), .int (iI (q 4))]) := (hfr _ (by omega)).trans hOg
      refine lv_iload_n X.1 X.2.1 dX11_parted_16 rfl (lv_at hl 3 rfl) ?_
      refine x_if_lt (tgt := 175) X ⟨by omega, by omega⟩ dX11_parted_17 (by decide) (fun b_17 => ?_) (fun b_17 => ?_)
      · refine lv_aload_n X.1 X.2.1 dX11_parted_175 rfl (lv_at hl 0 rfl) ?_
        refine lv_iload_n X.1 X.2.1 dX11_parted_176 rfl (lv_at hl 1 rfl) ?_
        refine x_bipush X (by decide) dX11_parted_177 ?_
        refine x_cv (x_runV (k := 2) (As := [.int (iI ((a : Int))), .int (iI (6))]) (rest := []) X hW (c_X11_copy l E A n _ gw i a 6 q Nw hi hO ha (by omega) (by omega) hN) (by omega) hO rfl gX11_parted_X11_copy rfl rfl rfl (by decide +kernel) ⟨by decide, by decide⟩ rfl hl.1 rfl (Nat.le_of_ble_eq_true rfl) dX11_parted_179 ⟨Nat.zero_le _, Nat.zero_le _⟩) hW (fun g_179 H locs hp_179 hW => ?_)
        obtain ⟨hN, hf_179⟩ := hp_179
        obtain ⟨N_179, hN_179⟩ : ∃ N9 : Nat → Int, N9 = va_up Nw a (Nw 6) := ⟨_, rfl⟩
        rw [← hN_179] at hN
        have hO : g_179 i = .inr (11, [.ref (A (i + 1)), .ref (A (i + 2)), .ref (A (i + 3)), .ref (A (i + 4)), .int (iI (q 0)), .ref (A (i + 5)), .ref (A (i + 6)), .ref (A (i + 7)), .ref (A (i + 8)), .int (iI (q 1)), .ref (A (i + 9)), .ref (A (i + 10)), .ref (A (i + 11)), .int (iI (q 2)), .ref (A (i + 12)), .ref (A (i + 13)), .int (iI (q 3)), .ref (A (i + 14)), .ref (A (i + 15)), .ref (A (i + 16)), .int (iI (q 4))]) := by rw [hf_179 _ (by omega)]; exact hO
        exact x_vret X hr hlk hW (⟨⟨N_179, hN, by rw [hN_179, va_up_self, v6, show k = 0 from by omega, qh_0], fun x a0 a5 a6 a7 => by rw [hN_179, va_up_ne _ _ a0]; exact hoth x a5 a6 a7⟩, fun j hj => (hf_179 j hj).trans (hfr j hj)⟩) dX11_parted_182
      · obtain ⟨t, ht⟩ : ∃ t, k = t + 1 := ⟨k - 1, by omega⟩
        have hrd : dvR v w (t + 1) < w := Nat.mod_lt _ hw
        have hgd := dg_lt v t
        rw [ht] at v5
        have hva : Nw a = (v : Int) := (hoth a ha5 ha6 ha7).trans hv
        obtain ⟨nf, h1, hNv⟩ := hN
        refine x_bipush X (by decide) dX11_parted_20 ?_
        refine x_seti (((9 : Nat) : Int)) rfl ?_
        refine lv_istore (lv' := [(4, .int (iI (((9 : Nat) : Int)))), (0, .ref (A (i))), (1, .int (iI ((a : Int)))), (2, .int (iI ((b : Int)))), (3, .int (iI ((k : Int) - 1)))]) X.1 X.2.1 dX11_parted_22 hl (by decide) rfl (fun ls hl => ?_)
        have loop_24 : ∀ (fuel : Nat) (j1 : Nat) (nw : Nat → Int64) (gv : Nat → va_E) (H : Heap) (locs : List Loc) (ls : Array Slot), (j1) < fuel → (j1 ≤ 9) → (gv (i + 1) = aJ E 40000 nw) → (∀ j, j < 10 → nw (50 + j) = lI (lm (Nw 5) (if j1 < j then j - 1 else j))) → (∀ j, (j < 50 ∨ 60 ≤ j) → nw j = nf j) → (∀ j, j ≠ i + 1 → gv j = g j) → wH E (wF A n sz) A n s gv H locs → lv_has ls 10 [(0, .ref (A (i))), (1, .int (iI ((a : Int)))), (2, .int (iI ((b : Int)))), (3, .int (iI ((k : Int) - 1))), (4, .int (iI ((j1 : Int))))] → W p l e ({ frames := 4, cells := 0, slots := 0, locals := 140 } : Room) s m [.ref (A (i)), .int (iI ((a : Int))), .int (iI ((b : Int)))].toArray below meth c H locs 0 0 (MQ below (va_Qv (fun g' => (∃ N' : Nat → Int, MN E A g' i N' ∧ N' a = ((v / w : Nat) : Int) ∧ ∀ x, x ≠ a → x ≠ 5 → x ≠ 6 → x ≠ 7 → N' x = N x) ∧ ∀ j, j ≠ i + 1 → g' j = g j) (wAt E A n) (wF A n sz)) [.ref (A (i)), .int (iI ((a : Int))), .int (iI ((b : Int)))].toArray s 0 0 (wF A n sz)) (F0 m 24 ls []) := by
          intro fuel
          induction fuel with
          | zero => intro j1 nw gv H locs ls hm; exact absurd hm (Nat.not_lt_zero _)
          | succ fuel ih_24 =>
            intro j1 nw gv H locs ls hm hj h1 hp hou hfr2 hW hl
            have hO : gv i = .inr (11, [.ref (A (i + 1)), .ref (A (i + 2)), .ref (A (i + 3)), .ref (A (i + 4)), .int (iI (q 0)), .ref (A (i + 5)), .ref (A (i + 6)), .ref (A (i + 7)), .ref (A (i + 8)), .int (iI (q 1)), .ref (A (i + 9)), .ref (A (i + 10)), .ref (A (i + 11)), .int (iI (q 2)), .ref (A (i + 12)), .ref (A (i + 13)), .int (iI (q 3)), .ref (A (i + 14)), .ref (A (i + 15)), .ref (A (i + 16)), .int (iI (q 4))]) := (hfr2 _ (by omega)).trans hOg
            refine lv_iload X.1 X.2.1 dX11_parted_24 (lv_at hl 4 rfl) ?_
            refine x_if_le (tgt := 57) X ⟨by omega, by omega⟩ dX11_parted_26 (by decide) (fun b_26 => ?_) (fun b_26 => ?_)
            · refine lv_aload_n X.1 X.2.1 dX11_parted_57 rfl (lv_at hl 0 rfl) ?_
              refine x_get (C := RX11) (T := TX11) (N := 21) X hW (by omega) hO rfl lk_0 0 (by decide) lk_1 rfl dX11_parted_58 ?_
              refine x_bipush X (by decide) dX11_parted_61 ?_
              refine lv_aload_n X.1 X.2.1 dX11_parted_63 rfl (lv_at hl 0 rfl) ?_
              refine x_get (C := RX11) (T := TX11) (N := 21) X hW (by omega) hO rfl lk_0 0 (by decide) lk_1 rfl dX11_parted_64 ?_
              refine x_bipush X (by decide) dX11_parted_67 ?_
              refine lv_iload_n X.1 X.2.1 dX11_parted_69 rfl (lv_at hl 1 rfl) ?_
              refine x_imul X dX11_parted_70 ?_
              refine lv_iload_n X.1 X.2.1 dX11_parted_71 rfl (lv_at hl 3 rfl) ?_
              refine x_iadd X dX11_parted_72 ?_
              refine x_lald X hW (by omega) h1 (v := lI (lm (Nw a) t)) (10 * a + t) (by omega) (by omega) (by decide) (by rw [hou _ (by omega)]; exact (hNv a ha).2.2 t (by omega)) dX11_parted_73 ?_
              refine x_last X hW (by omega) h1 (50 + 0) (by omega) (by omega) (by decide) dX11_parted_74 (fun g_74 H locs hg_74 hW => ?_)
              have hO : g_74 i = .inr (11, [.ref (A (i + 1)), .ref (A (i + 2)), .ref (A (i + 3)), .ref (A (i + 4)), .int (iI (q 0)), .ref (A (i + 5)), .ref (A (i + 6)), .ref (A (i + 7)), .ref (A (i + 8)), .int (iI (q 1)), .ref (A (i + 9)), .ref (A (i + 10)), .ref (A (i + 11)), .int (iI (q 2)), .ref (A (i + 12)), .ref (A (i + 13)), .int (iI (q 3)), .ref (A (i + 14)), .ref (A (i + 15)), .ref (A (i + 16)), .int (iI (q 4))]) := by rw [hg_74, va_up_ne _ _ (by omega)]; exact hO
              have h1 : g_74 (i + 1) = aJ E 40000 (vp_updL nw (50 + 0) (lI (lm (Nw a) t))) := by rw [hg_74, va_up_self]
              have hX8 : dvR v w (t + 1) * 1000000000 + dg v t < 10 ^ 69 := by omega
              have hN : MN E A g_74 i (va_up Nw 5 ((dvR v w (t + 1) * 1000000000 + dg v t : Nat) : Int)) := MN_up (nf := nf) h1 hNv (by omega) (by omega) (fun j hj => by
                rw [lm_nat (by omega) hj, sh_dg _ _ (dg_lt v t)]
                show vp_updL nw (50 + 0) _ (50 + j) = _
                rw [ud5]
                by_cases e0 : j = 0
                · rw [if_pos e0, if_pos e0, hva, lm_nat (by omega) (by omega)]
                · rw [if_neg e0, if_neg e0, hp j hj, if_pos (by omega), v5, lm_nat (by omega) (by omega)])
                (fun j hj => by rw [show (50 + 0 : Nat) = 10 * 5 + 0 from rfl, ud_out (by omega) hj]; exact hou j (by omega))
              obtain ⟨N_75, hN_75⟩ : ∃ N9 : Nat → Int, N9 = va_up Nw 5 ((dvR v w (t + 1) * 1000000000 + dg v t : Nat) : Int) := ⟨_, rfl⟩
              rw [← hN_75] at hN
              have v5 : N_75 5 = ((dvR v w (t + 1) * 1000000000 + dg v t : Nat) : Int) := by rw [hN_75, va_up_self]
              have v6 : N_75 6 = ((qh (v / w) (t + 1) : Nat) : Int) := by rw [hN_75, va_up_ne _ _ (by omega), v6, ht]
              have hoth : ∀ x, x ≠ 5 → x ≠ 6 → x ≠ 7 → N_75 x = N x := fun x a5 a6 a7 => by rw [hN_75, va_up_ne _ _ (by omega)]; exact hoth x a5 a6 a7
              have hfr : ∀ j, j ≠ i + 1 → g_74 j = g j := fun j hj => by rw [hg_74, va_up_ne _ _ hj]; exact hfr2 j hj
              have hXw : (dvR v w (t + 1) * 1000000000 + dg v t) / w ≤ 999999999 := by rw [dv_dig hw]; have := dg_lt (v / w) t; omega
              obtain ⟨XX, hXX⟩ : ∃ XX, XX = dvR v w (t + 1) * 1000000000 + dg v t := ⟨_, rfl⟩
              rw [← hXX] at v5 hXw hX8
              refine x_lconst X 0 (by decide) dX11_parted_75 ?_
              refine x_setl (((0 : Nat) : Int)) rfl ?_
              refine lv_lstore (lv' := [(4, .long (lI (((0 : Nat) : Int)))), (0, .ref (A (i))), (1, .int (iI ((a : Int)))), (2, .int (iI ((b : Int)))), (3, .int (iI ((k : Int) - 1)))]) X.1 X.2.1 dX11_parted_76 hl (by decide) rfl (fun ls hl => ?_)
              refine x_ldc2 X (999999999) (by decide) lk_2 dX11_parted_78 ?_
              refine x_setl (((999999999 : Nat) : Int)) rfl ?_
              refine lv_lstore (lv' := [(6, .long (lI (((999999999 : Nat) : Int)))), (4, .long (lI (((0 : Nat) : Int)))), (0, .ref (A (i))), (1, .int (iI ((a : Int)))), (2, .int (iI ((b : Int)))), (3, .int (iI ((k : Int) - 1)))]) X.1 X.2.1 dX11_parted_81 hl (by decide) rfl (fun ls hl => ?_)
              have loop_83 : ∀ (fuel : Nat) (lo : Nat) (hi2 : Nat) (Nw : Nat → Int) (gu : Nat → va_E) (H : Heap) (locs : List Loc) (ls : Array Slot), (hi2 - lo) < fuel → (lo ≤ XX / w) → (XX / w ≤ hi2) → (hi2 ≤ 999999999) → (MN E A gu i Nw) → (Nw 5 = (XX : Int)) → (Nw 6 = ((qh (v / w) (t + 1) : Nat) : Int)) → (∀ x, x ≠ 5 → x ≠ 6 → x ≠ 7 → Nw x = N x) → (∀ j, j ≠ i + 1 → gu j = g j) → wH E (wF A n sz) A n s gu H locs → lv_has ls 10 [(0, .ref (A (i))), (1, .int (iI ((a : Int)))), (2, .int (iI ((b : Int)))), (3, .int (iI ((k : Int) - 1))), (4, .long (lI ((lo : Int)))), (6, .long (lI ((hi2 : Int))))] → W p l e ({ frames := 4, cells := 0, slots := 0, locals := 140 } : Room) s m [.ref (A (i)), .int (iI ((a : Int))), .int (iI ((b : Int)))].toArray below meth c H locs 0 0 (MQ below (va_Qv (fun g' => (∃ N' : Nat → Int, MN E A g' i N' ∧ N' a = ((v / w : Nat) : Int) ∧ ∀ x, x ≠ a → x ≠ 5 → x ≠ 6 → x ≠ 7 → N' x = N x) ∧ ∀ j, j ≠ i + 1 → g' j = g j) (wAt E A n) (wF A n sz)) [.ref (A (i)), .int (iI ((a : Int))), .int (iI ((b : Int)))].toArray s 0 0 (wF A n sz)) (F0 m 83 ls []) := by
                intro fuel
                induction fuel with
                | zero => intro lo hi2 Nw gu H locs ls hm; exact absurd hm (Nat.not_lt_zero _)
                | succ fuel ih_83 =>
                  intro lo hi2 Nw gu H locs ls hm hl1 hl2 hl3 hN v5 v6 hoth hfr hW hl
                  have hO : gu i = .inr (11, [.ref (A (i + 1)), .ref (A (i + 2)), .ref (A (i + 3)), .ref (A (i + 4)), .int (iI (q 0)), .ref (A (i + 5)), .ref (A (i + 6)), .ref (A (i + 7)), .ref (A (i + 8)), .int (iI (q 1)), .ref (A (i + 9)), .ref (A (i + 10)), .ref (A (i + 11)), .int (iI (q 2)), .ref (A (i + 12)), .ref (A (i + 13)), .int (iI (q 3)), .ref (A (i + 14)), .ref (A (i + 15)), .ref (A (i + 16)), .int (iI (q 4))]) := (hfr _ (by omega)).trans hOg
                  have v5o := v5
                  refine lv_lload X.1 X.2.1 dX11_parted_83 (lv_at hl 4 rfl) ?_
                  refine lv_lload X.1 X.2.1 dX11_parted_85 (lv_at hl 5 rfl) ?_
                  refine x_lcmp_ge (tgt := 149) X ⟨by omega, by omega⟩ ⟨by omega, by omega⟩ dX11_parted_87 dX11_parted_88 (by decide) (fun b_87 => ?_) (fun b_87 => ?_)
                  · have hlo2 : lo = XX / w := by omega
                    have hlo : lo = dg (v / w) t := by rw [hlo2, hXX, dv_dig hw]
                    have vb : Nw b = (w : Int) := (hoth b hb5 hb6 hb7).trans hwv
                    have hwl : w * lo ≤ XX := by rw [hlo2]; exact Nat.mul_div_le XX w
                    have hcm : (w : Int) * -(lo : Int) = -((w * lo : Nat) : Int) := by rw [Int.mul_neg, Int.natCast_mul]
                    refine lv_aload_n X.1 X.2.1 dX11_parted_149 rfl (lv_at hl 0 rfl) ?_
                    refine x_iconst X dX11_parted_150 ?_
                    refine lv_iload_n X.1 X.2.1 dX11_parted_151 rfl (lv_at hl 2 rfl) ?_
                    refine lv_lload X.1 X.2.1 dX11_parted_152 (lv_at hl 4 rfl) ?_
                    refine x_lneg X dX11_parted_154 ?_
                    refine x_cv (x_runV (k := 3) (As := [.int (iI (5)), .int (iI ((b : Int))), .long (lI (-((lo : Int))))]) (rest := []) X hW (c_X11_more l E A n _ gu i 5 b q Nw (-(lo : Int)) hi hO (by omega) hbb (by omega) hN (by omega) (by omega) (by rw [v5, vb, hcm]; omega) (by rw [v5, vb, hcm]; omega)) (by omega) hO rfl gX11_parted_X11_more rfl rfl rfl (by decide +kernel) ⟨by decide, by decide⟩ rfl hl.1 rfl (Nat.le_of_ble_eq_true rfl) dX11_parted_155 ⟨Nat.zero_le _, Nat.zero_le _⟩) hW (fun g_155 H locs hp_155 hW => ?_)
                    obtain ⟨hN, hf_155⟩ := hp_155
                    obtain ⟨N_155, hN_155⟩ : ∃ N9 : Nat → Int, N9 = va_up Nw 5 (Nw 5 + Nw b * -(lo : Int)) := ⟨_, rfl⟩
                    rw [← hN_155] at hN
                    have hO : g_155 i = .inr (11, [.ref (A (i + 1)), .ref (A (i + 2)), .ref (A (i + 3)), .ref (A (i + 4)), .int (iI (q 0)), .ref (A (i + 5)), .ref (A (i + 6)), .ref (A (i + 7)), .ref (A (i + 8)), .int (iI (q 1)), .ref (A (i + 9)), .ref (A (i + 10)), .ref (A (i + 11)), .int (iI (q 2)), .ref (A (i + 12)), .ref (A (i + 13)), .int (iI (q 3)), .ref (A (i + 14)), .ref (A (i + 15)), .ref (A (i + 16)), .int (iI (q 4))]) := by rw [hf_155 _ (by omega)]; exact hO
                    have hoth : ∀ x, x ≠ 5 → x ≠ 6 → x ≠ 7 → N_155 x = N x := fun x a5 a6 a7 => by rw [hN_155, va_up_ne _ _ (by omega)]; exact hoth x a5 a6 a7
                    have v5 : N_155 5 = ((dvR v w t : Nat) : Int) := by
                      rw [hN_155, va_up_self, v5, vb, hcm, ← dv_next (v := v) (d := w) (k := t), ← hXX]
                      have e1 := Nat.div_add_mod XX w
                      rw [← hlo2] at e1
                      omega
                    have v6 : N_155 6 = ((qh (v / w) (t + 1) : Nat) : Int) := by rw [hN_155, va_up_ne _ _ (by omega)]; exact v6
                    have hfr : ∀ j, j ≠ i + 1 → g_155 j = g j := fun j hj => (hf_155 j hj).trans (hfr j hj)
                    obtain ⟨nf, h1, hNv⟩ := hN
                    refine lv_aload_n X.1 X.2.1 dX11_parted_158 rfl (lv_at hl 0 rfl) ?_
                    refine x_get (C := RX11) (T := TX11) (N := 21) X hW (by omega) hO rfl lk_0 0 (by decide) lk_1 rfl dX11_parted_159 ?_
                    refine x_bipush X (by decide) dX11_parted_162 ?_
                    refine lv_iload_n X.1 X.2.1 dX11_parted_164 rfl (lv_at hl 3 rfl) ?_
                    refine x_iadd X dX11_parted_165 ?_
                    refine lv_lload X.1 X.2.1 dX11_parted_166 (lv_at hl 4 rfl) ?_
                    refine x_last X hW (by omega) h1 (60 + t) (by omega) (by omega) (by decide) dX11_parted_168 (fun g_168 H locs hg_168 hW => ?_)
                    have hO : g_168 i = .inr (11, [.ref (A (i + 1)), .ref (A (i + 2)), .ref (A (i + 3)), .ref (A (i + 4)), .int (iI (q 0)), .ref (A (i + 5)), .ref (A (i + 6)), .ref (A (i + 7)), .ref (A (i + 8)), .int (iI (q 1)), .ref (A (i + 9)), .ref (A (i + 10)), .ref (A (i + 11)), .int (iI (q 2)), .ref (A (i + 12)), .ref (A (i + 13)), .int (iI (q 3)), .ref (A (i + 14)), .ref (A (i + 15)), .ref (A (i + 16)), .int (iI (q 4))]) := by rw [hg_168, va_up_ne _ _ (by omega)]; exact hO
                    have h1 : g_168 (i + 1) = aJ E 40000 (vp_updL nf (60 + t) (lI ((lo : Int)))) := by rw [hg_168, va_up_self]
                    have hN : MN E A g_168 i (va_up N_155 6 ((qh (v / w) t : Nat) : Int)) := MN_up (nf := nf) h1 hNv (by omega) (by have := qh_le (v / w) t; have := Nat.div_le_self v w; omega) (fun j hj => by
                      rw [lm_nat (by have := qh_le (v / w) t; have := Nat.div_le_self v w; omega) hj, qh_dg]
                      show vp_updL nf (60 + t) _ (60 + j) = _
                      rw [ud5]
                      by_cases e0 : j = t
                      · rw [if_pos e0, if_pos (by omega), e0, hlo]
                      · rw [if_neg e0]
                        have e1 := (hNv 6 (by omega)).2.2 j hj
                        rw [v6, lm_nat (by have := qh_le (v / w) (t + 1); have := Nat.div_le_self v w; omega) hj, qh_dg] at e1
                        rw [show (60 + j : Nat) = 10 * 6 + j from rfl, e1]
                        by_cases e2 : t + 1 ≤ j
                        · rw [if_pos e2, if_pos (by omega)]
                        · rw [if_neg e2, if_neg (by omega)])
                      (fun j hj => by rw [show (60 + t : Nat) = 10 * 6 + t from rfl, ud_out (by omega) hj])
                    have hfr : ∀ j, j ≠ i + 1 → g_168 j = g j := fun j hj => by rw [hg_168, va_up_ne _ _ hj]; exact hfr j hj
                    refine lv_iinc (v := iI ((t : Int) - 1)) (lv' := [(3, .int (iI ((t : Int) - 1))), (0, .ref (A (i))), (1, .int (iI ((a : Int)))), (2, .int (iI ((b : Int)))), (4, .long (lI ((lo : Int)))), (6, .long (lI ((hi2 : Int))))]) X.1 X.2.1 dX11_parted_169 hl (k := 3) rfl (by rw [show (Int32.ofInt (-1)) = iI (-1) from rfl, iI_add]; congr 1; omega) (by decide) rfl (fun ls hl => ?_)
                    refine lv_goto (tgt := 16) X.1 X.2.1 dX11_parted_172 (by decide) ?_
                    exact ih_16 t _ g_168 _ _ _ (by omega) (by omega) hN (by rw [va_up_ne _ _ (by omega)]; exact v5) (by rw [va_up_self]) (fun x a5 a6 a7 => by rw [va_up_ne _ _ a6]; exact hoth x a5 a6 a7) hfr hW (lv_sub hl [1, 2, 3, 0] rfl)
                  · obtain ⟨mid, hmid⟩ : ∃ mid, mid = (lo + hi2 + 1) / 2 := ⟨_, rfl⟩
                    refine lv_lload X.1 X.2.1 dX11_parted_91 (lv_at hl 4 rfl) ?_
                    refine lv_lload X.1 X.2.1 dX11_parted_93 (lv_at hl 5 rfl) ?_
                    refine x_ladd X dX11_parted_95 ?_
                    refine x_lconst X 1 (by decide) dX11_parted_96 ?_
                    refine x_ladd X dX11_parted_97 ?_
                    refine x_ldc2 X (2) (by decide) lk_3 dX11_parted_98 ?_
                    refine x_ldiv X ⟨by omega, by omega⟩ ⟨by decide, by decide⟩ (by omega) (by decide) dX11_parted_101 ?_
                    refine x_setl ((mid : Int)) (by omega) ?_
                    refine lv_lstore (lv' := [(8, .long (lI ((mid : Int)))), (0, .ref (A (i))), (1, .int (iI ((a : Int)))), (2, .int (iI ((b : Int)))), (3, .int (iI ((k : Int) - 1))), (4, .long (lI ((lo : Int)))), (6, .long (lI ((hi2 : Int))))]) X.1 X.2.1 dX11_parted_102 hl (by decide) rfl (fun ls hl => ?_)
                    refine lv_aload_n X.1 X.2.1 dX11_parted_104 rfl (lv_at hl 1 rfl) ?_
                    refine x_bipush X (by decide) dX11_parted_105 ?_
                    refine x_iconst X dX11_parted_107 ?_
                    refine x_cv (x_runV (k := 2) (As := [.int (iI (7)), .int (iI (5))]) (rest := []) X hW (c_X11_copy l E A n _ gu i 7 5 q Nw hi hO (by omega) (by omega) (by omega) hN) (by omega) hO rfl gX11_parted_X11_copy rfl rfl rfl (by decide +kernel) ⟨by decide, by decide⟩ rfl hl.1 rfl (Nat.le_of_ble_eq_true rfl) dX11_parted_108 ⟨Nat.zero_le _, Nat.zero_le _⟩) hW (fun g_108 H locs hp_108 hW => ?_)
                    obtain ⟨hN, hf_108⟩ := hp_108
                    obtain ⟨N_108, hN_108⟩ : ∃ N9 : Nat → Int, N9 = va_up Nw 7 (Nw 5) := ⟨_, rfl⟩
                    rw [← hN_108] at hN
                    have hO : g_108 i = .inr (11, [.ref (A (i + 1)), .ref (A (i + 2)), .ref (A (i + 3)), .ref (A (i + 4)), .int (iI (q 0)), .ref (A (i + 5)), .ref (A (i + 6)), .ref (A (i + 7)), .ref (A (i + 8)), .int (iI (q 1)), .ref (A (i + 9)), .ref (A (i + 10)), .ref (A (i + 11)), .int (iI (q 2)), .ref (A (i + 12)), .ref (A (i + 13)), .int (iI (q 3)), .ref (A (i + 14)), .ref (A (i + 15)), .ref (A (i + 16)), .int (iI (q 4))]) := by rw [hf_108 _ (by omega)]; exact hO
                    have hoth : ∀ x, x ≠ 5 → x ≠ 6 → x ≠ 7 → N_108 x = N x := fun x a5 a6 a7 => by rw [hN_108, va_up_ne _ _ (by omega)]; exact hoth x a5 a6 a7
                    have v5 : N_108 5 = (XX : Int) := by rw [hN_108, va_up_ne _ _ (by omega)]; exact v5
                    have v6 : N_108 6 = ((qh (v / w) (t + 1) : Nat) : Int) := by rw [hN_108, va_up_ne _ _ (by omega)]; exact v6
                    have v7 : N_108 7 = (XX : Int) := by rw [hN_108, va_up_self]; exact v5o
                    have vb : N_108 b = (w : Int) := (hoth b hb5 hb6 hb7).trans hwv
                    have hwm : w * mid ≤ w * 1000000000 := Nat.mul_le_mul_left w (by omega)
                    have hcm : (w : Int) * -(mid : Int) = -((w * mid : Nat) : Int) := by rw [Int.mul_neg, Int.natCast_mul]
                    refine lv_aload_n X.1 X.2.1 dX11_parted_111 rfl (lv_at hl 1 rfl) ?_
                    refine x_bipush X (by decide) dX11_parted_112 ?_
                    refine lv_iload_n X.1 X.2.1 dX11_parted_114 rfl (lv_at hl 3 rfl) ?_
                    refine lv_lload X.1 X.2.1 dX11_parted_115 (lv_at hl 0 rfl) ?_
                    refine x_lneg X dX11_parted_117 ?_
                    refine x_cv (x_runV (k := 3) (As := [.int (iI (7)), .int (iI ((b : Int))), .long (lI (-((mid : Int))))]) (rest := []) X hW (c_X11_more l E A n _ g_108 i 7 b q N_108 (-(mid : Int)) hi hO (by omega) hbb (by omega) hN (by omega) (by omega) (by rw [v7, vb, hcm]; omega) (by rw [v7, vb, hcm]; omega)) (by omega) hO rfl gX11_parted_X11_more rfl rfl rfl (by decide +kernel) ⟨by decide, by decide⟩ rfl hl.1 rfl (Nat.le_of_ble_eq_true rfl) dX11_parted_118 ⟨Nat.zero_le _, Nat.zero_le _⟩) hW (fun g_118 H locs hp_118 hW => ?_)
                    obtain ⟨hN, hf_118⟩ := hp_118
                    obtain ⟨N_118, hN_118⟩ : ∃ N9 : Nat → Int, N9 = va_up N_108 7 (N_108 7 + N_108 b * -(mid : Int)) := ⟨_, rfl⟩
                    rw [← hN_118] at hN
                    have hO : g_118 i = .inr (11, [.ref (A (i + 1)), .ref (A (i + 2)), .ref (A (i + 3)), .ref (A (i + 4)), .int (iI (q 0)), .ref (A (i + 5)), .ref (A (i + 6)), .ref (A (i + 7)), .ref (A (i + 8)), .int (iI (q 1)), .ref (A (i + 9)), .ref (A (i + 10)), .ref (A (i + 11)), .int (iI (q 2)), .ref (A (i + 12)), .ref (A (i + 13)), .int (iI (q 3)), .ref (A (i + 14)), .ref (A (i + 15)), .ref (A (i + 16)), .int (iI (q 4))]) := by rw [hf_118 _ (by omega)]; exact hO
                    have hoth : ∀ x, x ≠ 5 → x ≠ 6 → x ≠ 7 → N_118 x = N x := fun x a5 a6 a7 => by rw [hN_118, va_up_ne _ _ (by omega)]; exact hoth x a5 a6 a7
                    have v5 : N_118 5 = (XX : Int) := by rw [hN_118, va_up_ne _ _ (by omega)]; exact v5
                    have v6 : N_118 6 = ((qh (v / w) (t + 1) : Nat) : Int) := by rw [hN_118, va_up_ne _ _ (by omega)]; exact v6
                    have v7 : N_118 7 = (XX : Int) - ((w * mid : Nat) : Int) := by rw [hN_118, va_up_self, v7, vb, hcm]; omega
                    have hfr : ∀ j, j ≠ i + 1 → g_118 j = g j := fun j hj => (hf_118 j hj).trans ((hf_108 j hj).trans (hfr j hj))
                    obtain ⟨nf, h1, hNv⟩ := hN
                    have hlt7 := lm_top (hNv 7 (by omega)).1 (hNv 7 (by omega)).2.1
                    refine lv_aload_n X.1 X.2.1 dX11_parted_121 rfl (lv_at hl 1 rfl) ?_
                    refine x_get (C := RX11) (T := TX11) (N := 21) X hW (by omega) hO rfl lk_0 0 (by decide) lk_1 rfl dX11_parted_122 ?_
                    refine x_bipush X (by decide) dX11_parted_125 ?_
                    refine x_lald X hW (by omega) h1 (v := lI (lm (N_118 7) 9)) (10 * 7 + 9) (by omega) (by omega) (by decide) ((hNv 7 (by omega)).2.2 9 (by omega)) dX11_parted_127 ?_
                    refine x_lconst X 0 (by decide) dX11_parted_128 ?_
                    refine x_lcmp_ge (tgt := 142) X hlt7.2 I64_0 dX11_parted_129 dX11_parted_130 (by decide) (fun b_129 => ?_) (fun b_129 => ?_)
                    · have h7 : ¬ N_118 7 < 0 := fun h => by have := hlt7.1.mpr h; omega
                      rw [v7] at h7
                      have hpos : mid ≤ XX / w := (Nat.le_div_iff_mul_le hw).mpr (by rw [Nat.mul_comm]; omega)
                      have hN : MN E A g_118 i N_118 := ⟨nf, h1, hNv⟩
                      refine lv_lload X.1 X.2.1 dX11_parted_142 (lv_at hl 0 rfl) ?_
                      refine lv_lstore (lv' := [(4, .long (lI ((mid : Int)))), (8, .long (lI ((mid : Int)))), (0, .ref (A (i))), (1, .int (iI ((a : Int)))), (2, .int (iI ((b : Int)))), (3, .int (iI ((k : Int) - 1))), (6, .long (lI ((hi2 : Int))))]) X.1 X.2.1 dX11_parted_144 hl (by decide) rfl (fun ls hl => ?_)
                      refine lv_goto (tgt := 83) X.1 X.2.1 dX11_parted_146 (by decide) ?_
                      exact ih_83 mid hi2 N_118 g_118 _ _ _ (by omega) hpos hl2 hl3 hN v5 v6 hoth hfr hW (lv_sub hl [2, 3, 4, 5, 0, 6] rfl)
                    · have hneg : XX / w < mid := Nat.div_lt_of_lt_mul (by have := hlt7.1.mp (by omega); rw [v7] at this; omega)
                      have hN : MN E A g_118 i N_118 := ⟨nf, h1, hNv⟩
                      refine lv_lload X.1 X.2.1 dX11_parted_133 (lv_at hl 0 rfl) ?_
                      refine x_lconst X 1 (by decide) dX11_parted_135 ?_
                      refine x_lsub X dX11_parted_136 ?_
                      refine x_setl (((mid - 1 : Nat) : Int)) (by omega) ?_
                      refine lv_lstore (lv' := [(6, .long (lI (((mid - 1 : Nat) : Int)))), (8, .long (lI ((mid : Int)))), (0, .ref (A (i))), (1, .int (iI ((a : Int)))), (2, .int (iI ((b : Int)))), (3, .int (iI ((k : Int) - 1))), (4, .long (lI ((lo : Int))))]) X.1 X.2.1 dX11_parted_137 hl (by decide) rfl (fun ls hl => ?_)
                      refine lv_goto (tgt := 146) X.1 X.2.1 dX11_parted_139 (by decide) ?_
                      refine lv_goto (tgt := 83) X.1 X.2.1 dX11_parted_146 (by decide) ?_
                      exact ih_83 lo (mid - 1) N_118 g_118 _ _ _ (by omega) hl1 (by omega) (by omega) hN v5 v6 hoth hfr hW (lv_sub hl [2, 3, 4, 5, 6, 0] rfl)
              exact loop_83 _ 0 999999999 N_75 g_74 _ _ _ (Nat.lt_succ_self _) (Nat.zero_le _) hXw (Nat.le_refl _) hN v5 v6 hoth hfr hW (lv_sub hl [2, 3, 4, 5, 1, 0] rfl)
            · refine lv_aload_n X.1 X.2.1 dX11_parted_29 rfl (lv_at hl 0 rfl) ?_
              refine x_get (C := RX11) (T := TX11) (N := 21) X hW (by omega) hO rfl lk_0 0 (by decide) lk_1 rfl dX11_parted_30 ?_
              refine x_bipush X (by decide) dX11_parted_33 ?_
              refine lv_iload X.1 X.2.1 dX11_parted_35 (lv_at hl 4 rfl) ?_
              refine x_iadd X dX11_parted_37 ?_
              refine lv_aload_n X.1 X.2.1 dX11_parted_38 rfl (lv_at hl 0 rfl) ?_
              refine x_get (C := RX11) (T := TX11) (N := 21) X hW (by omega) hO rfl lk_0 0 (by decide) lk_1 rfl dX11_parted_39 ?_
              refine x_bipush X (by decide) dX11_parted_42 ?_
              refine lv_iload X.1 X.2.1 dX11_parted_44 (lv_at hl 4 rfl) ?_
              refine x_iadd X dX11_parted_46 ?_
              refine x_iconst X dX11_parted_47 ?_
              refine x_isub X dX11_parted_48 ?_
              refine x_lald X hW (by omega) h1 (v := lI (lm (Nw 5) (j1 - 1))) (50 + (j1 - 1)) (by omega) (by omega) (by decide) (by rw [hp _ (by omega), if_neg (by omega)]) dX11_parted_49 ?_
              refine x_last X hW (by omega) h1 (50 + j1) (by omega) (by omega) (by decide) dX11_parted_50 (fun g_50 H locs hg_50 hW => ?_)
              have hO : g_50 i = .inr (11, [.ref (A (i + 1)), .ref (A (i + 2)), .ref (A (i + 3)), .ref (A (i + 4)), .int (iI (q 0)), .ref (A (i + 5)), .ref (A (i + 6)), .ref (A (i + 7)), .ref (A (i + 8)), .int (iI (q 1)), .ref (A (i + 9)), .ref (A (i + 10)), .ref (A (i + 11)), .int (iI (q 2)), .ref (A (i + 12)), .ref (A (i + 13)), .int (iI (q 3)), .ref (A (i + 14)), .ref (A (i + 15)), .ref (A (i + 16)), .int (iI (q 4))]) := by rw [hg_50, va_up_ne _ _ (by omega)]; exact hO
              have h1 : g_50 (i + 1) = aJ E 40000 (vp_updL nw (50 + j1) (lI (lm (Nw 5) (j1 - 1)))) := by rw [hg_50, va_up_self]
              refine lv_iinc (v := iI (((j1 - 1 : Nat) : Int))) (lv' := [(4, .int (iI (((j1 - 1 : Nat) : Int)))), (0, .ref (A (i))), (1, .int (iI ((a : Int)))), (2, .int (iI ((b : Int)))), (3, .int (iI ((k : Int) - 1)))]) X.1 X.2.1 dX11_parted_51 hl (k := 4) rfl (by rw [show (Int32.ofInt (-1)) = iI (-1) from rfl, iI_add]; congr 1; omega) (by decide) rfl (fun ls hl => ?_)
              refine lv_goto (tgt := 24) X.1 X.2.1 dX11_parted_54 (by decide) ?_
              exact ih_24 (j1 - 1) _ g_50 _ _ _ (by omega) (by omega) h1 (fun j hj => by rw [ud5]; by_cases e1 : j = j1 <;> first | (rw [if_pos e1, if_pos (by omega), e1]) | (rw [if_neg e1, hp j hj]; congr 2; by_cases e2 : j1 < j <;> first | (rw [if_pos e2, if_pos (by omega)]) | (rw [if_neg e2, if_neg (by omega)]))) (fun j hj => by rw [pk_uLn (by omega)]; exact hou j hj) (fun j hj => by rw [hg_50, va_up_ne _ _ hj]; exact hfr2 j hj) hW (lv_sub hl [1, 2, 3, 4, 0] rfl)
        exact loop_24 _ 9 nf gw _ _ _ (Nat.lt_succ_self _) (by omega) h1 (fun j hj => by rw [if_neg (by omega)]; exact (hNv 5 (by omega)).2.2 j hj) (fun _ _ => rfl) hfr hW (lv_sub hl [1, 2, 3, 4, 0] rfl)
  exact loop_16 _ 10 N_10 g_10 _ _ _ (Nat.lt_succ_self _) (by omega) hN (by rw [v_5]; unfold dvR; rw [Nat.div_eq_of_lt (by omega), Nat.zero_mod]; rfl) (by rw [v_6, qh_10 (by have := Nat.div_le_self v w; omega)]; rfl) hoth hfr hW (lv_sub hl [1, 2, 3, 0] rfl)
