/-! ===== the reference's numbers ===== -/
def mO (A : Nat → Nat) (i : Nat) (q : Nat → Int) : va_E := .inr (11, [.ref (A (i + 1)), .ref (A (i + 2)), .ref (A (i + 3)), .ref (A (i + 4)), .int (iI (q 0)), .ref (A (i + 5)), .ref (A (i + 6)), .ref (A (i + 7)), .ref (A (i + 8)), .int (iI (q 1)), .ref (A (i + 9)), .ref (A (i + 10)), .ref (A (i + 11)), .int (iI (q 2)), .ref (A (i + 12)), .ref (A (i + 13)), .int (iI (q 3)), .ref (A (i + 14)), .ref (A (i + 15)), .ref (A (i + 16)), .int (iI (q 4))])
/-- number a of the reference's table has the value v -/
def MV (nf : Nat → Int64) (a : Nat) (v : Int) : Prop := -(10 ^ 80) < v ∧ v < 10 ^ 80 ∧ ∀ k, k < 10 → nf (10 * a + k) = lI (lm v k)
def MN (E : wE) (A : Nat → Nat) (g : Nat → va_E) (i : Nat) (N : Nat → Int) : Prop := ∃ nf : Nat → Int64, g (i + 1) = aJ E 40000 nf ∧ ∀ a, a < 4000 → MV nf a (N a)
def clm (x : Nat → Int) (k j : Nat) : Int := if j < k then ps x 10 / 1000000000 ^ j % 1000000000 else if j = k then ps x k / 1000000000 ^ k + x k else x j
theorem clm_lt {x : Nat → Int} {k j : Nat} (h : j < k) : clm x k j = ps x 10 / 1000000000 ^ j % 1000000000 := if_pos h
theorem clm_eq (x : Nat → Int) (k : Nat) : clm x k k = ps x k / 1000000000 ^ k + x k := by unfold clm; rw [if_neg (Nat.lt_irrefl k), if_pos rfl]
theorem clm_gt {x : Nat → Int} {k j : Nat} (h : k < j) : clm x k j = x j := by unfold clm; rw [if_neg (by omega), if_neg (by omega)]
theorem clm_0 (x : Nat → Int) (j : Nat) : clm x 0 j = x j := by
  by_cases h : j = 0
  · subst h; rw [clm_eq]; show ps x 0 / 1 + x 0 = x 0; rw [show ps x 0 = 0 from rfl]; omega
  · exact clm_gt (by omega)
theorem clm_9 (x : Nat → Int) {j : Nat} (hj : j < 10) : clm x 9 j = lm (ps x 10) j := by
  by_cases h : j < 9
  · rw [clm_lt h]; unfold lm; rw [if_pos h]
  · obtain rfl : j = 9 := by omega
    rw [clm_eq, ← ps_here]; unfold lm; rw [if_neg (by omega)]
theorem ud_in (nf : Nat → Int64) (a k : Nat) (z : Int64) (j : Nat) : vp_updL nf (10 * a + k) z (10 * a + j) = if j = k then z else nf (10 * a + j) := by
  unfold vp_updL
  by_cases h : j = k
  · subst h; rw [if_pos rfl, if_pos rfl]
  · rw [if_neg (by omega), if_neg h]
theorem ud_out {nf : Nat → Int64} {a k : Nat} {z : Int64} (hk : k < 10) {j : Nat} (h : j < 10 * a ∨ 10 * a + 10 ≤ j) : vp_updL nf (10 * a + k) z j = nf j := pk_uLn (by omega)
theorem cr_up {nf : Nat → Int64} {x : Nat → Int} {a k : Nat} (hk : k < 9) (hp : ∀ j, j < 10 → nf (10 * a + j) = lI (clm x k j)) : ∀ j, j < 10 → vp_updL (vp_updL nf (10 * a + k) (lI (ps x 10 / 1000000000 ^ k % 1000000000))) (10 * a + (k + 1)) (lI (ps x (k + 1) / 1000000000 ^ (k + 1) + x (k + 1))) (10 * a + j) = lI (clm x (k + 1) j) := by
  intro j hj
  rw [ud_in, ud_in]
  by_cases h1 : j = k + 1
  · subst h1; rw [if_pos rfl, clm_eq]
  · rw [if_neg h1]
    by_cases h2 : j = k
    · subst h2; rw [if_pos rfl, clm_lt (by omega)]
    · rw [if_neg h2, hp j hj]
      by_cases h3 : j < k
      · rw [clm_lt h3, clm_lt (by omega)]
      · rw [clm_gt (by omega), clm_gt (by omega)]
/-- behind a carry every number is as before, but one -/
theorem MN_up {E : wE} {A : Nat → Nat} {g' : Nat → va_E} {i a : Nat} {N : Nat → Int} {nf nf' : Nat → Int64} {v : Int} (hg : g' (i + 1) = aJ E 40000 nf') (hN : ∀ b, b < 4000 → MV nf b (N b)) (h1 : -(10 ^ 80) < v) (h2 : v < 10 ^ 80) (hv : ∀ k, k < 10 → nf' (10 * a + k) = lI (lm v k)) (ho : ∀ j, (j < 10 * a ∨ 10 * a + 10 ≤ j) → nf' j = nf j) : MN E A g' i (va_up N a v) := by
  refine ⟨nf', hg, fun b hb => ?_⟩
  by_cases h : b = a
  · subst h; rw [va_up_self]; exact ⟨h1, h2, hv⟩
  · rw [va_up_ne _ _ h]
    obtain ⟨c1, c2, c3⟩ := hN b hb
    exact ⟨c1, c2, fun k hk => by rw [ho _ (by omega)]; exact c3 k hk⟩
theorem mul_rng {a b : Int} (M T : Nat) (h1 : -(M : Int) ≤ a) (h2 : a ≤ M) (h3 : -(T : Int) ≤ b) (h4 : b ≤ T) : -((M * T : Nat) : Int) ≤ a * b ∧ a * b ≤ ((M * T : Nat) : Int) := by
  have e : (a * b).natAbs ≤ M * T := by
    rw [Int.natAbs_mul]
    exact Nat.mul_le_mul (by omega) (by omega)
  omega
theorem lm_rng' {nf : Nat → Int64} {a : Nat} {v : Int} (h : MV nf a v) (k : Nat) (hk : k < 10) : -1000000000 ≤ lm v k ∧ lm v k < 1000000000 := lm_rng (by have := h.1; omega) (by have := h.2.1; omega) k hk
theorem lm_I64 {nf : Nat → Int64} {a : Nat} {v : Int} (h : MV nf a v) (k : Nat) (hk : k < 10) : I64 (lm v k) := by
  have := lm_rng' h k hk
  exact ⟨by omega, by omega⟩

set_option maxHeartbeats 4000000 in
set_option maxRecDepth 100000 in
/-- carry -/
theorem c_X11_carry (l : Launch) (E : wE) (A : Nat → Nat) (n sz : Nat) (g : Nat → va_E) (i a : Nat) (q : Nat → Int) (nf : Nat → Int64) (x : Nat → Int) (hi : i + 16 < n) (hO : g i = mO A i q) (ha : a < 4000) (h1 : g (i + 1) = aJ E 40000 nf) (hp : ∀ k, k < 10 → nf (10 * a + k) = lI (x k)) (hb : ∀ k, k < 10 → -5000000000000000000 ≤ x k ∧ x k ≤ 5000000000000000000) : Met l yX11_carry wsX11_carry ({ frames := 2, cells := 0, slots := 0, locals := 60 } : Room) (va_Pc [.ref (A (i)), .int (iI ((a : Int)))] (wPre E A n sz g)) (va_Qv (fun g' => (∃ nf' : Nat → Int64, g' (i + 1) = aJ E 40000 nf' ∧ (∀ k, k < 10 → nf' (10 * a + k) = lI (lm (ps x 10) k)) ∧ ∀ j, (j < 10 * a ∨ 10 * a + 10 ≤ j) → nf' j = nf j) ∧ ∀ j, j ≠ i + 1 → g' j = g j) (wAt E A n) (wF A n sz)) 0 0 (wF A n sz) := by
  refine x_met (cc := cX11_carry) (maxL := 5) (ret := none) [.ref (A (i)), .int (iI ((a : Int)))] (by decide) rfl (Nat.le_of_ble_eq_true rfl) ?_
  intro p e s m below meth c ls X hr hlk hnm hsz hW hl
  have hl : lv_has ls 5 [(0, .ref (A (i))), (1, .int (iI ((a : Int))))] := hl
  have lk_0 : ∀ w ∈ wsX110, w ∈ wsX11_carry := by decide +kernel
  have lk_1 : Cond.fieldLink RX11 10 (TX11 0).1 (TX11 0).2.1 (TX11 0).2.2.1 ∈ wsX11_carry := by decide +kernel
  have lk_2 : Cond.constantLong RX11 64 (1000000000) ∈ wsX11_carry := by decide +kernel
  have hO : g i = .inr (11, [.ref (A (i + 1)), .ref (A (i + 2)), .ref (A (i + 3)), .ref (A (i + 4)), .int (iI (q 0)), .ref (A (i + 5)), .ref (A (i + 6)), .ref (A (i + 7)), .ref (A (i + 8)), .int (iI (q 1)), .ref (A (i + 9)), .ref (A (i + 10)), .ref (A (i + 11)), .int (iI (q 2)), .ref (A (i + 12)), .ref (A (i + 13)), .int (iI (q 3)), .ref (A (i + 14)), .ref (A (i + 15)), .ref (A (i + 16)), .int (iI (q 4))]) := hO
  refine x_iconst X dX11_carry_0 ?_
  refine lv_istore_n (lv' := [(2, .int (iI (0))), (0, .ref (A (i))), (1, .int (iI ((a : Int))))]) X.1 X.2.1 dX11_carry_1 rfl hl (by decide) rfl (fun ls hl => ?_)
  have loop_2 : ∀ (fuel : Nat) (k : Nat) (nw : Nat → Int64) (gw : Nat → va_E) (H : Heap) (locs : List Loc) (ls : Array Slot), (9 - k) < fuel → (k ≤ 9) → (gw i = .inr (11, [.ref (A (i + 1)), .ref (A (i + 2)), .ref (A (i + 3)), .ref (A (i + 4)), .int (iI (q 0)), .ref (A (i + 5)), .ref (A (i + 6)), .ref (A (i + 7)), .ref (A (i + 8)), .int (iI (q 1)), .ref (A (i + 9)), .ref (A (i + 10)), .ref (A (i + 11)), .int (iI (q 2)), .ref (A (i + 12)), .ref (A (i + 13)), .int (iI (q 3)), .ref (A (i + 14)), .ref (A (i + 15)), .ref (A (i + 16)), .int (iI (q 4))])) → (gw (i + 1) = aJ E 40000 nw) → (∀ j, j < 10 → nw (10 * a + j) = lI (clm x k j)) → (∀ j, (j < 10 * a ∨ 10 * a + 10 ≤ j) → nw j = nf j) → (∀ j, j ≠ i + 1 → gw j = g j) → wH E (wF A n sz) A n s gw H locs → lv_has ls 5 [(0, .ref (A (i))), (1, .int (iI ((a : Int)))), (2, .int (iI ((k : Int))))] → W p l e ({ frames := 2, cells := 0, slots := 0, locals := 60 } : Room) s m [.ref (A (i)), .int (iI ((a : Int)))].toArray below meth c H locs 0 0 (MQ below (va_Qv (fun g' => (∃ nf' : Nat → Int64, g' (i + 1) = aJ E 40000 nf' ∧ (∀ k, k < 10 → nf' (10 * a + k) = lI (lm (ps x 10) k)) ∧ ∀ j, (j < 10 * a ∨ 10 * a + 10 ≤ j) → nf' j = nf j) ∧ ∀ j, j ≠ i + 1 → g' j = g j) (wAt E A n) (wF A n sz)) [.ref (A (i)), .int (iI ((a : Int)))].toArray s 0 0 (wF A n sz)) (F0 m 2 ls []) := by
    intro fuel
    induction fuel with
    | zero => intro k nw gw H locs ls hm; exact absurd hm (Nat.not_lt_zero _)
    | succ fuel ih_2 =>
      intro k nw gw H locs ls hm hk hO h1 hp hou hfr hW hl
      refine lv_iload_n X.1 X.2.1 dX11_carry_2 rfl (lv_at hl 2 rfl) ?_
      refine x_bipush X (by decide) dX11_carry_3 ?_
      refine x_icmp_ge (tgt := 67) X ⟨by omega, by omega⟩ ⟨by decide, by decide⟩ dX11_carry_5 (by decide) (fun b_5 => ?_) (fun b_5 => ?_)
      · exact x_vret X hr hlk hW (⟨⟨nw, h1, fun j hj => by rw [hp j hj, show k = 9 from by omega, clm_9 x hj], hou⟩, hfr⟩) dX11_carry_67
      · have hk9 : k < 9 := by omega
        have hx1 := hb k (by omega)
        have hx2 := hb (k + 1) (by omega)
        have hc := ps_bound (x := x) (M := 5000000000000000000) (by decide) k (fun j hj => hb j (by omega))
        refine lv_aload_n X.1 X.2.1 dX11_carry_8 rfl (lv_at hl 0 rfl) ?_
        refine x_get (C := RX11) (T := TX11) (N := 21) X hW (by omega) hO rfl lk_0 0 (by decide) lk_1 rfl dX11_carry_9 ?_
        refine x_bipush X (by decide) dX11_carry_12 ?_
        refine lv_iload_n X.1 X.2.1 dX11_carry_14 rfl (lv_at hl 1 rfl) ?_
        refine x_imul X dX11_carry_15 ?_
        refine lv_iload_n X.1 X.2.1 dX11_carry_16 rfl (lv_at hl 2 rfl) ?_
        refine x_iadd X dX11_carry_17 ?_
        refine x_lald X hW (by omega) h1 (v := lI (ps x k / 1000000000 ^ k + x k)) (10 * a + k) (by omega) (by omega) (by decide) (by rw [hp k (by omega), clm_eq]) dX11_carry_18 ?_
        refine lv_lstore_n (lv' := [(3, .long (lI (ps x k / 1000000000 ^ k + x k))), (0, .ref (A (i))), (1, .int (iI ((a : Int)))), (2, .int (iI ((k : Int))))]) X.1 X.2.1 dX11_carry_19 rfl hl (by decide) rfl (fun ls hl => ?_)
        refine lv_aload_n X.1 X.2.1 dX11_carry_20 rfl (lv_at hl 1 rfl) ?_
        refine x_get (C := RX11) (T := TX11) (N := 21) X hW (by omega) hO rfl lk_0 0 (by decide) lk_1 rfl dX11_carry_21 ?_
        refine x_bipush X (by decide) dX11_carry_24 ?_
        refine lv_iload_n X.1 X.2.1 dX11_carry_26 rfl (lv_at hl 2 rfl) ?_
        refine x_imul X dX11_carry_27 ?_
        refine lv_iload_n X.1 X.2.1 dX11_carry_28 rfl (lv_at hl 3 rfl) ?_
        refine x_iadd X dX11_carry_29 ?_
        refine lv_lload_n X.1 X.2.1 dX11_carry_30 rfl (lv_at hl 0 rfl) ?_
        refine x_ldc2 X (1000000000) (by decide) lk_2 dX11_carry_31 ?_
        refine x_cl (x_runS (k := 2) (As := [.long (lI (ps x k / 1000000000 ^ k + x k)), .long (lI (1000000000))]) (rest := [.int (iI ((10 * ((a : Int))) + ((k : Int)))), .ref (A (i + 1))]) X hW (c_J9_floorMod_f86c9 l E A n _ gw (ps x k / 1000000000 ^ k + x k) 1000000000 ⟨by omega, by omega⟩ ⟨by decide, by decide⟩ (by decide)) gX11_carry_J9_floorMod_f86c9 rfl rfl rfl (by decide +kernel) ⟨by decide, by decide⟩ rfl hl.1 rfl (Nat.le_of_ble_eq_true rfl) dX11_carry_34 ⟨Nat.zero_le _, Nat.zero_le _⟩) hW (fun r_34 g_34 H locs hp_34 hW => ?_)
        obtain ⟨hr_34, he_34⟩ := hp_34
        rw [he_34] at hW
        subst hr_34
        refine x_setl (ps x 10 / 1000000000 ^ k % 1000000000) (ps_dig x (by omega)) ?_
        refine x_last X hW (by omega) h1 (10 * a + k) (by omega) (by omega) (by decide) dX11_carry_37 (fun g_37 H locs hg_37 hW => ?_)
        have hO : g_37 i = .inr (11, [.ref (A (i + 1)), .ref (A (i + 2)), .ref (A (i + 3)), .ref (A (i + 4)), .int (iI (q 0)), .ref (A (i + 5)), .ref (A (i + 6)), .ref (A (i + 7)), .ref (A (i + 8)), .int (iI (q 1)), .ref (A (i + 9)), .ref (A (i + 10)), .ref (A (i + 11)), .int (iI (q 2)), .ref (A (i + 12)), .ref (A (i + 13)), .int (iI (q 3)), .ref (A (i + 14)), .ref (A (i + 15)), .ref (A (i + 16)), .int (iI (q 4))]) := by rw [hg_37, va_up_ne _ _ (by omega)]; exact hO
        have h1 : g_37 (i + 1) = aJ E 40000 (vp_updL nw (10 * a + k) (lI (ps x 10 / 1000000000 ^ k % 1000000000))) := by rw [hg_37, va_up_self]
        refine lv_aload_n X.1 X.2.1 dX11_carry_38 rfl (lv_at hl 1 rfl) ?_
        refine x_get (C := RX11) (T := TX11) (N := 21) X hW (by omega) hO rfl lk_0 0 (by decide) lk_1 rfl dX11_carry_39 ?_
        refine x_bipush X (by decide) dX11_carry_42 ?_
        refine lv_iload_n X.1 X.2.1 dX11_carry_44 rfl (lv_at hl 2 rfl) ?_
        refine x_imul X dX11_carry_45 ?_
        refine lv_iload_n X.1 X.2.1 dX11_carry_46 rfl (lv_at hl 3 rfl) ?_
        refine x_iadd X dX11_carry_47 ?_
        refine x_iconst X dX11_carry_48 ?_
        refine x_iadd X dX11_carry_49 ?_
        refine lv_dup2_11 X.1 X.2.1 dX11_carry_50 rfl rfl ?_
        refine x_lald X hW (by omega) h1 (v := lI (x (k + 1))) (10 * a + (k + 1)) (by omega) (by omega) (by decide) (by rw [ud_in, if_neg (by omega), hp _ (by omega), clm_gt (by omega)]) dX11_carry_51 ?_
        refine lv_lload_n X.1 X.2.1 dX11_carry_52 rfl (lv_at hl 0 rfl) ?_
        refine x_ldc2 X (1000000000) (by decide) lk_2 dX11_carry_53 ?_
        refine x_cl (x_runS (k := 2) (As := [.long (lI (ps x k / 1000000000 ^ k + x k)), .long (lI (1000000000))]) (rest := [.long (lI (x (k + 1))), .int (iI (((10 * ((a : Int))) + ((k : Int))) + 1)), .ref (A (i + 1))]) X hW (c_J9_floorDiv_f86c9 l E A n _ g_37 (ps x k / 1000000000 ^ k + x k) 1000000000 ⟨by omega, by omega⟩ ⟨by decide, by decide⟩ (by decide)) gX11_carry_J9_floorDiv_f86c9 rfl rfl rfl (by decide +kernel) ⟨by decide, by decide⟩ rfl hl.1 rfl (Nat.le_of_ble_eq_true rfl) dX11_carry_56 ⟨Nat.zero_le _, Nat.zero_le _⟩) hW (fun r_56 g_56 H locs hp_56 hW => ?_)
        obtain ⟨hr_56, he_56⟩ := hp_56
        rw [he_56] at hW
        subst hr_56
        refine x_ladd X dX11_carry_59 ?_
        refine x_setl (ps x (k + 1) / 1000000000 ^ (k + 1) + x (k + 1)) (by rw [ps_next]; omega) ?_
        refine x_last X hW (by omega) h1 (10 * a + (k + 1)) (by omega) (by omega) (by decide) dX11_carry_60 (fun g_60 H locs hg_60 hW => ?_)
        have hO : g_60 i = .inr (11, [.ref (A (i + 1)), .ref (A (i + 2)), .ref (A (i + 3)), .ref (A (i + 4)), .int (iI (q 0)), .ref (A (i + 5)), .ref (A (i + 6)), .ref (A (i + 7)), .ref (A (i + 8)), .int (iI (q 1)), .ref (A (i + 9)), .ref (A (i + 10)), .ref (A (i + 11)), .int (iI (q 2)), .ref (A (i + 12)), .ref (A (i + 13)), .int (iI (q 3)), .ref (A (i + 14)), .ref (A (i + 15)), .ref (A (i + 16)), .int (iI (q 4))]) := by rw [hg_60, va_up_ne _ _ (by omega)]; exact hO
        have h1 : g_60 (i + 1) = aJ E 40000 (vp_updL (vp_updL nw (10 * a + k) (lI (ps x 10 / 1000000000 ^ k % 1000000000))) (10 * a + (k + 1)) (lI (ps x (k + 1) / 1000000000 ^ (k + 1) + x (k + 1)))) := by rw [hg_60, va_up_self]
        refine lv_iinc (v := iI (((k + 1 : Nat) : Int))) (lv' := [(2, .int (iI (((k + 1 : Nat) : Int)))), (3, .long (lI (ps x k / 1000000000 ^ k + x k))), (0, .ref (A (i))), (1, .int (iI ((a : Int))))]) X.1 X.2.1 dX11_carry_61 hl (k := 3) rfl (by rw [show (Int32.ofInt (1)) = iI (1) from rfl, iI_add]; rfl) (by decide) rfl (fun ls hl => ?_)
        refine lv_goto (tgt := 2) X.1 X.2.1 dX11_carry_64 (by decide) ?_
        exact ih_2 (k + 1) _ g_60 _ _ _ (by omega) (by omega) hO h1 (cr_up hk9 hp) (fun j hj => by rw [ud_out (by omega) hj, ud_out (by omega) hj]; exact hou j hj) (fun j hj => by rw [hg_60, va_up_ne _ _ hj, hg_37, va_up_ne _ _ hj]; exact hfr j hj) hW (lv_sub hl [2, 3, 0] rfl)
  exact loop_2 _ 0 nf g _ _ _ (Nat.lt_succ_self _) (by omega) hO h1 (fun j hj => by rw [clm_0]; exact hp j hj) (fun _ _ => rfl) (fun _ _ => rfl) hW (lv_sub hl [1, 2, 0] rfl)

def sx (v : Int) (k : Nat) : Int := if k = 0 then v else 0
theorem ps_sx (v : Int) (k : Nat) : ps (sx v) (k + 1) = v := by
  induction k with
  | zero => show ps (sx v) 0 + sx v 0 * 1000000000 ^ 0 = v; rw [show ps (sx v) 0 = 0 from rfl, show sx v 0 = v from rfl]; omega
  | succ k ih => show ps (sx v) (k + 1) + sx v (k + 1) * _ = v; rw [ih, show sx v (k + 1) = 0 from if_neg (by omega)]; omega
theorem st_up {nf : Nat → Int64} {x : Nat → Int} {a k : Nat} (hp : ∀ j, j < k → nf (10 * a + j) = lI (x j)) : ∀ j, j < k + 1 → vp_updL nf (10 * a + k) (lI (x k)) (10 * a + j) = lI (x j) := by
  intro j hj
  rw [ud_in]
  by_cases h : j = k
  · subst h; rw [if_pos rfl]
  · rw [if_neg h]; exact hp j (by omega)
theorem st_up2 {nf nf0 : Nat → Int64} {a k : Nat} {z : Int64} (hr : ∀ j, k ≤ j → nf (10 * a + j) = nf0 (10 * a + j)) : ∀ j, k + 1 ≤ j → vp_updL nf (10 * a + k) z (10 * a + j) = nf0 (10 * a + j) := by
  intro j hj
  rw [ud_in, if_neg (by omega)]; exact hr j (by omega)

set_option maxHeartbeats 4000000 in
set_option maxRecDepth 100000 in
/-- set -/
theorem c_X11_set (l : Launch) (E : wE) (A : Nat → Nat) (n sz : Nat) (g : Nat → va_E) (i a : Nat) (q : Nat → Int) (N : Nat → Int) (v : Int) (hi : i + 16 < n) (hO : g i = mO A i q) (ha : a < 4000) (hN : MN E A g i N) (hv1 : -5000000000000000000 ≤ v) (hv2 : v ≤ 5000000000000000000) : Met l yX11_set wsX11_set ({ frames := 3, cells := 0, slots := 0, locals := 100 } : Room) (va_Pc [.ref (A (i)), .int (iI ((a : Int))), .long (lI (v))] (wPre E A n sz g)) (va_Qv (fun g' => MN E A g' i (va_up N a v) ∧ ∀ j, j ≠ i + 1 → g' j = g j) (wAt E A n) (wF A n sz)) 0 0 (wF A n sz) := by
  refine x_met (cc := cX11_set) (maxL := 5) (ret := none) [.ref (A (i)), .int (iI ((a : Int))), .long (lI (v))] (by decide) rfl (Nat.le_of_ble_eq_true rfl) ?_
  intro p e s m below meth c ls X hr hlk hnm hsz hW hl
  have hl : lv_has ls 5 [(0, .ref (A (i))), (1, .int (iI ((a : Int)))), (2, .long (lI (v)))] := hl
  have lk_0 : ∀ w ∈ wsX110, w ∈ wsX11_set := by decide +kernel
  have lk_1 : Cond.fieldLink RX11 10 (TX11 0).1 (TX11 0).2.1 (TX11 0).2.2.1 ∈ wsX11_set := by decide +kernel
  have hO : g i = .inr (11, [.ref (A (i + 1)), .ref (A (i + 2)), .ref (A (i + 3)), .ref (A (i + 4)), .int (iI (q 0)), .ref (A (i + 5)), .ref (A (i + 6)), .ref (A (i + 7)), .ref (A (i + 8)), .int (iI (q 1)), .ref (A (i + 9)), .ref (A (i + 10)), .ref (A (i + 11)), .int (iI (q 2)), .ref (A (i + 12)), .ref (A (i + 13)), .int (iI (q 3)), .ref (A (i + 14)), .ref (A (i + 15)), .ref (A (i + 16)), .int (iI (q 4))]) := hO
  obtain ⟨nf, h1, hN⟩ := hN
  obtain ⟨xx, hxx⟩ : ∃ xx, xx = sx v := ⟨_, rfl⟩
  have hbx : ∀ k, k < 10 → -5000000000000000000 ≤ xx k ∧ xx k ≤ 5000000000000000000 := by
    intro k hk; rw [hxx]; unfold sx; split <;> omega
  refine x_iconst X dX11_set_0 ?_
  refine lv_istore (lv' := [(4, .int (iI (0))), (0, .ref (A (i))), (1, .int (iI ((a : Int)))), (2, .long (lI (v)))]) X.1 X.2.1 dX11_set_1 hl (by decide) rfl (fun ls hl => ?_)
  have loop_3 : ∀ (fuel : Nat) (k : Nat) (nw : Nat → Int64) (gw : Nat → va_E) (H : Heap) (locs : List Loc) (ls : Array Slot), (10 - k) < fuel → (k ≤ 10) → (gw i = .inr (11, [.ref (A (i + 1)), .ref (A (i + 2)), .ref (A (i + 3)), .ref (A (i + 4)), .int (iI (q 0)), .ref (A (i + 5)), .ref (A (i + 6)), .ref (A (i + 7)), .ref (A (i + 8)), .int (iI (q 1)), .ref (A (i + 9)), .ref (A (i + 10)), .ref (A (i + 11)), .int (iI (q 2)), .ref (A (i + 12)), .ref (A (i + 13)), .int (iI (q 3)), .ref (A (i + 14)), .ref (A (i + 15)), .ref (A (i + 16)), .int (iI (q 4))])) → (gw (i + 1) = aJ E 40000 nw) → (∀ j, j < k → nw (10 * a + j) = lI (xx j)) → (∀ j, k ≤ j → nw (10 * a + j) = nf (10 * a + j)) → (∀ j, (j < 10 * a ∨ 10 * a + 10 ≤ j) → nw j = nf j) → (∀ j, j ≠ i + 1 → gw j = g j) → wH E (wF A n sz) A n s gw H locs → lv_has ls 5 [(0, .ref (A (i))), (1, .int (iI ((a : Int)))), (2, .long (lI (v))), (4, .int (iI ((k : Int))))] → W p l e ({ frames := 3, cells := 0, slots := 0, locals := 100 } : Room) s m [.ref (A (i)), .int (iI ((a : Int))), .long (lI (v))].toArray below meth c H locs 0 0 (MQ below (va_Qv (fun g' => MN E A g' i (va_up N a v) ∧ ∀ j, j ≠ i + 1 → g' j = g j) (wAt E A n) (wF A n sz)) [.ref (A (i)), .int (iI ((a : Int))), .long (lI (v))].toArray s 0 0 (wF A n sz)) (F0 m 3 ls []) := by
    intro fuel
    induction fuel with
    | zero => intro k nw gw H locs ls hm; exact absurd hm (Nat.not_lt_zero _)
    | succ fuel ih_3 =>
      intro k nw gw H locs ls hm hk hO h1 hp hr2 hou hfr hW hl
      refine lv_iload X.1 X.2.1 dX11_set_3 (lv_at hl 3 rfl) ?_
      refine x_bipush X (by decide) dX11_set_5 ?_
      refine x_icmp_ge (tgt := 38) X ⟨by omega, by omega⟩ ⟨by decide, by decide⟩ dX11_set_7 (by decide) (fun b_7 => ?_) (fun b_7 => ?_)
      · refine lv_aload_n X.1 X.2.1 dX11_set_38 rfl (lv_at hl 0 rfl) ?_
        refine lv_iload_n X.1 X.2.1 dX11_set_39 rfl (lv_at hl 1 rfl) ?_
        refine x_cv (x_runV (k := 1) (As := [.int (iI ((a : Int)))]) (rest := []) X hW (c_X11_carry l E A n _ gw i a q nw xx hi hO ha h1 (fun k hk => hp k (by omega)) hbx) (by omega) hO rfl gX11_set_X11_carry rfl rfl rfl (by decide +kernel) ⟨by decide, by decide⟩ rfl hl.1 rfl (Nat.le_of_ble_eq_true rfl) dX11_set_40 ⟨Nat.zero_le _, Nat.zero_le _⟩) hW (fun g_40 H locs hp_40 hW => ?_)
        obtain ⟨⟨nz, hz1, hz2, hz3⟩, hz4⟩ := hp_40
        exact x_vret X hr hlk hW (⟨MN_up (nf := nf) hz1 hN (by omega) (by omega) (fun k hk => by rw [hz2 k hk]; rw [hxx, ps_sx]) (fun j hj => (hz3 j hj).trans (hou j hj)), fun j hj => (hz4 j hj).trans (hfr j hj)⟩) dX11_set_43
      · have hk9 : k < 10 := by omega
        refine lv_aload_n X.1 X.2.1 dX11_set_10 rfl (lv_at hl 0 rfl) ?_
        refine x_get (C := RX11) (T := TX11) (N := 21) X hW (by omega) hO rfl lk_0 0 (by decide) lk_1 rfl dX11_set_11 ?_
        refine x_bipush X (by decide) dX11_set_14 ?_
        refine lv_iload_n X.1 X.2.1 dX11_set_16 rfl (lv_at hl 1 rfl) ?_
        refine x_imul X dX11_set_17 ?_
        refine lv_iload X.1 X.2.1 dX11_set_18 (lv_at hl 3 rfl) ?_
        refine x_iadd X dX11_set_20 ?_
        refine lv_iload X.1 X.2.1 dX11_set_21 (lv_at hl 3 rfl) ?_
        refine x_if_ne (tgt := 30) X ⟨by omega, by omega⟩ dX11_set_23 (by decide) (fun b_23 => ?_) (fun b_23 => ?_)
        · have ex : xx k = 0 := by rw [hxx]; exact if_neg (by omega)
          refine x_lconst X 0 (by decide) dX11_set_30 ?_
          refine x_setl (xx k) ex.symm ?_
          refine x_last X hW (by omega) h1 (10 * a + k) (by omega) (by omega) (by decide) dX11_set_31 (fun g_31 H locs hg_31 hW => ?_)
          have hO : g_31 i = .inr (11, [.ref (A (i + 1)), .ref (A (i + 2)), .ref (A (i + 3)), .ref (A (i + 4)), .int (iI (q 0)), .ref (A (i + 5)), .ref (A (i + 6)), .ref (A (i + 7)), .ref (A (i + 8)), .int (iI (q 1)), .ref (A (i + 9)), .ref (A (i + 10)), .ref (A (i + 11)), .int (iI (q 2)), .ref (A (i + 12)), .ref (A (i + 13)), .int (iI (q 3)), .ref (A (i + 14)), .ref (A (i + 15)), .ref (A (i + 16)), .int (iI (q 4))]) := by rw [hg_31, va_up_ne _ _ (by omega)]; exact hO
          have h1 : g_31 (i + 1) = aJ E 40000 (vp_updL nw (10 * a + k) (lI (xx k))) := by rw [hg_31, va_up_self]
          refine lv_iinc (v := iI (((k + 1 : Nat) : Int))) (lv' := [(4, .int (iI (((k + 1 : Nat) : Int)))), (0, .ref (A (i))), (1, .int (iI ((a : Int)))), (2, .long (lI (v)))]) X.1 X.2.1 dX11_set_32 hl (k := 3) rfl (by rw [show (Int32.ofInt (1)) = iI (1) from rfl, iI_add]; rfl) (by decide) rfl (fun ls hl => ?_)
          refine lv_goto (tgt := 3) X.1 X.2.1 dX11_set_35 (by decide) ?_
          exact ih_3 (k + 1) _ g_31 _ _ _ (by omega) (by omega) hO h1 (st_up hp) (st_up2 hr2) (fun j hj => by rw [ud_out (by omega) hj]; exact hou j hj) (fun j hj => by rw [hg_31, va_up_ne _ _ hj]; exact hfr j hj) hW (lv_sub hl [1, 2, 3, 0] rfl)
        · have ex : xx k = v := by rw [hxx]; exact if_pos (by omega)
          refine lv_lload_n X.1 X.2.1 dX11_set_26 rfl (lv_at hl 2 rfl) ?_
          refine lv_goto (tgt := 31) X.1 X.2.1 dX11_set_27 (by decide) ?_
          refine x_setl (xx k) ex.symm ?_
          refine x_last X hW (by omega) h1 (10 * a + k) (by omega) (by omega) (by decide) dX11_set_31 (fun g_31 H locs hg_31 hW => ?_)
          have hO : g_31 i = .inr (11, [.ref (A (i + 1)), .ref (A (i + 2)), .ref (A (i + 3)), .ref (A (i + 4)), .int (iI (q 0)), .ref (A (i + 5)), .ref (A (i + 6)), .ref (A (i + 7)), .ref (A (i + 8)), .int (iI (q 1)), .ref (A (i + 9)), .ref (A (i + 10)), .ref (A (i + 11)), .int (iI (q 2)), .ref (A (i + 12)), .ref (A (i + 13)), .int (iI (q 3)), .ref (A (i + 14)), .ref (A (i + 15)), .ref (A (i + 16)), .int (iI (q 4))]) := by rw [hg_31, va_up_ne _ _ (by omega)]; exact hO
          have h1 : g_31 (i + 1) = aJ E 40000 (vp_updL nw (10 * a + k) (lI (xx k))) := by rw [hg_31, va_up_self]
          refine lv_iinc (v := iI (((k + 1 : Nat) : Int))) (lv' := [(4, .int (iI (((k + 1 : Nat) : Int)))), (0, .ref (A (i))), (1, .int (iI ((a : Int)))), (2, .long (lI (v)))]) X.1 X.2.1 dX11_set_32 hl (k := 3) rfl (by rw [show (Int32.ofInt (1)) = iI (1) from rfl, iI_add]; rfl) (by decide) rfl (fun ls hl => ?_)
          refine lv_goto (tgt := 3) X.1 X.2.1 dX11_set_35 (by decide) ?_
          exact ih_3 (k + 1) _ g_31 _ _ _ (by omega) (by omega) hO h1 (st_up hp) (st_up2 hr2) (fun j hj => by rw [ud_out (by omega) hj]; exact hou j hj) (fun j hj => by rw [hg_31, va_up_ne _ _ hj]; exact hfr j hj) hW (lv_sub hl [1, 2, 3, 0] rfl)
  exact loop_3 _ 0 nf g _ _ _ (Nat.lt_succ_self _) (by omega) hO h1 (fun j hj => absurd hj (Nat.not_lt_zero _)) (fun _ _ => rfl) (fun _ _ => rfl) (fun _ _ => rfl) hW (lv_sub hl [1, 2, 3, 0] rfl)

theorem ps_zero (k : Nat) : ps (fun _ => 0) k = 0 := by
  induction k with
  | zero => rfl
  | succ k ih => show ps _ k + 0 * _ = 0; rw [ih, Int.zero_mul]; rfl

set_option maxHeartbeats 4000000 in
set_option maxRecDepth 100000 in
/-- times -/
theorem c_X11_times (l : Launch) (E : wE) (A : Nat → Nat) (n sz : Nat) (g : Nat → va_E) (i a : Nat) (q : Nat → Int) (N : Nat → Int) (t : Int) (hi : i + 16 < n) (hO : g i = mO A i q) (ha : a < 4000) (hN : MN E A g i N) (ht1 : -4000000000 ≤ t) (ht2 : t ≤ 4000000000) (hb1 : -(10 ^ 80) < N a * t) (hb2 : N a * t < 10 ^ 80) : Met l yX11_times wsX11_times ({ frames := 3, cells := 0, slots := 0, locals := 100 } : Room) (va_Pc [.ref (A (i)), .int (iI ((a : Int))), .long (lI (t))] (wPre E A n sz g)) (va_Qv (fun g' => MN E A g' i (va_up N a (N a * t)) ∧ ∀ j, j ≠ i + 1 → g' j = g j) (wAt E A n) (wF A n sz)) 0 0 (wF A n sz) := by
  refine x_met (cc := cX11_times) (maxL := 5) (ret := none) [.ref (A (i)), .int (iI ((a : Int))), .long (lI (t))] (by decide) rfl (Nat.le_of_ble_eq_true rfl) ?_
  intro p e s m below meth c ls X hr hlk hnm hsz hW hl
  have hl : lv_has ls 5 [(0, .ref (A (i))), (1, .int (iI ((a : Int)))), (2, .long (lI (t)))] := hl
  have lk_0 : ∀ w ∈ wsX110, w ∈ wsX11_times := by decide +kernel
  have lk_1 : Cond.fieldLink RX11 10 (TX11 0).1 (TX11 0).2.1 (TX11 0).2.2.1 ∈ wsX11_times := by decide +kernel
  have hO : g i = .inr (11, [.ref (A (i + 1)), .ref (A (i + 2)), .ref (A (i + 3)), .ref (A (i + 4)), .int (iI (q 0)), .ref (A (i + 5)), .ref (A (i + 6)), .ref (A (i + 7)), .ref (A (i + 8)), .int (iI (q 1)), .ref (A (i + 9)), .ref (A (i + 10)), .ref (A (i + 11)), .int (iI (q 2)), .ref (A (i + 12)), .ref (A (i + 13)), .int (iI (q 3)), .ref (A (i + 14)), .ref (A (i + 15)), .ref (A (i + 16)), .int (iI (q 4))]) := hO
  obtain ⟨nf, h1, hN⟩ := hN
  obtain ⟨xx, hxx⟩ : ∃ xx : Nat → Int, xx = fun j => lm (N a) j * t := ⟨_, rfl⟩
  have hbx : ∀ k, k < 10 → -5000000000000000000 ≤ xx k ∧ xx k ≤ 5000000000000000000 := by
    intro k hk
    have h2 := lm_rng' (hN a ha) k hk
    have := mul_rng (a := lm (N a) k) (b := t) 1000000000 4000000000 (by omega) (by omega) (by omega) (by omega)
    rw [hxx]; show -5000000000000000000 ≤ lm (N a) k * t ∧ lm (N a) k * t ≤ 5000000000000000000; omega
  have hps : ps xx 10 = N a * t := by
    rw [hxx, ← ps_lm (N a)]; have := ps_lin (fun _ => 0) (lm (N a)) t 10; rw [ps_lm]; simpa [ps_lm, ps_zero] using this
  refine x_iconst X dX11_times_0 ?_
  refine lv_istore (lv' := [(4, .int (iI (0))), (0, .ref (A (i))), (1, .int (iI ((a : Int)))), (2, .long (lI (t)))]) X.1 X.2.1 dX11_times_1 hl (by decide) rfl (fun ls hl => ?_)
  have loop_3 : ∀ (fuel : Nat) (k : Nat) (nw : Nat → Int64) (gw : Nat → va_E) (H : Heap) (locs : List Loc) (ls : Array Slot), (10 - k) < fuel → (k ≤ 10) → (gw i = .inr (11, [.ref (A (i + 1)), .ref (A (i + 2)), .ref (A (i + 3)), .ref (A (i + 4)), .int (iI (q 0)), .ref (A (i + 5)), .ref (A (i + 6)), .ref (A (i + 7)), .ref (A (i + 8)), .int (iI (q 1)), .ref (A (i + 9)), .ref (A (i + 10)), .ref (A (i + 11)), .int (iI (q 2)), .ref (A (i + 12)), .ref (A (i + 13)), .int (iI (q 3)), .ref (A (i + 14)), .ref (A (i + 15)), .ref (A (i + 16)), .int (iI (q 4))])) → (gw (i + 1) = aJ E 40000 nw) → (∀ j, j < k → nw (10 * a + j) = lI (xx j)) → (∀ j, k ≤ j → nw (10 * a + j) = nf (10 * a + j)) → (∀ j, (j < 10 * a ∨ 10 * a + 10 ≤ j) → nw j = nf j) → (∀ j, j ≠ i + 1 → gw j = g j) → wH E (wF A n sz) A n s gw H locs → lv_has ls 5 [(0, .ref (A (i))), (1, .int (iI ((a : Int)))), (2, .long (lI (t))), (4, .int (iI ((k : Int))))] → W p l e ({ frames := 3, cells := 0, slots := 0, locals := 100 } : Room) s m [.ref (A (i)), .int (iI ((a : Int))), .long (lI (t))].toArray below meth c H locs 0 0 (MQ below (va_Qv (fun g' => MN E A g' i (va_up N a (N a * t)) ∧ ∀ j, j ≠ i + 1 → g' j = g j) (wAt E A n) (wF A n sz)) [.ref (A (i)), .int (iI ((a : Int))), .long (lI (t))].toArray s 0 0 (wF A n sz)) (F0 m 3 ls []) := by
    intro fuel
    induction fuel with
    | zero => intro k nw gw H locs ls hm; exact absurd hm (Nat.not_lt_zero _)
    | succ fuel ih_3 =>
      intro k nw gw H locs ls hm hk hO h1 hp hr2 hou hfr hW hl
      refine lv_iload X.1 X.2.1 dX11_times_3 (lv_at hl 3 rfl) ?_
      refine x_bipush X (by decide) dX11_times_5 ?_
      refine x_icmp_ge (tgt := 32) X ⟨by omega, by omega⟩ ⟨by decide, by decide⟩ dX11_times_7 (by decide) (fun b_7 => ?_) (fun b_7 => ?_)
      · refine lv_aload_n X.1 X.2.1 dX11_times_32 rfl (lv_at hl 0 rfl) ?_
        refine lv_iload_n X.1 X.2.1 dX11_times_33 rfl (lv_at hl 1 rfl) ?_
        refine x_cv (x_runV (k := 1) (As := [.int (iI ((a : Int)))]) (rest := []) X hW (c_X11_carry l E A n _ gw i a q nw xx hi hO ha h1 (fun k hk => hp k (by omega)) hbx) (by omega) hO rfl gX11_times_X11_carry rfl rfl rfl (by decide +kernel) ⟨by decide, by decide⟩ rfl hl.1 rfl (Nat.le_of_ble_eq_true rfl) dX11_times_34 ⟨Nat.zero_le _, Nat.zero_le _⟩) hW (fun g_34 H locs hp_34 hW => ?_)
        obtain ⟨⟨nz, hz1, hz2, hz3⟩, hz4⟩ := hp_34
        exact x_vret X hr hlk hW (⟨MN_up (nf := nf) hz1 hN hb1 hb2 (fun k hk => by rw [hz2 k hk]; rw [hps]) (fun j hj => (hz3 j hj).trans (hou j hj)), fun j hj => (hz4 j hj).trans (hfr j hj)⟩) dX11_times_37
      · have hk9 : k < 10 := by omega
        refine lv_aload_n X.1 X.2.1 dX11_times_10 rfl (lv_at hl 0 rfl) ?_
        refine x_get (C := RX11) (T := TX11) (N := 21) X hW (by omega) hO rfl lk_0 0 (by decide) lk_1 rfl dX11_times_11 ?_
        refine x_bipush X (by decide) dX11_times_14 ?_
        refine lv_iload_n X.1 X.2.1 dX11_times_16 rfl (lv_at hl 1 rfl) ?_
        refine x_imul X dX11_times_17 ?_
        refine lv_iload X.1 X.2.1 dX11_times_18 (lv_at hl 3 rfl) ?_
        refine x_iadd X dX11_times_20 ?_
        refine lv_dup2_11 X.1 X.2.1 dX11_times_21 rfl rfl ?_
        refine x_lald X hW (by omega) h1 (v := lI (lm (N a) k)) (10 * a + k) (by omega) (by omega) (by decide) (by rw [hr2 k (Nat.le_refl k)]; exact (hN a ha).2.2 k hk9) dX11_times_22 ?_
        refine lv_lload_n X.1 X.2.1 dX11_times_23 rfl (lv_at hl 2 rfl) ?_
        refine x_lmul X dX11_times_24 ?_
        refine x_setl (xx k) (by rw [hxx]) ?_
        refine x_last X hW (by omega) h1 (10 * a + k) (by omega) (by omega) (by decide) dX11_times_25 (fun g_25 H locs hg_25 hW => ?_)
        have hO : g_25 i = .inr (11, [.ref (A (i + 1)), .ref (A (i + 2)), .ref (A (i + 3)), .ref (A (i + 4)), .int (iI (q 0)), .ref (A (i + 5)), .ref (A (i + 6)), .ref (A (i + 7)), .ref (A (i + 8)), .int (iI (q 1)), .ref (A (i + 9)), .ref (A (i + 10)), .ref (A (i + 11)), .int (iI (q 2)), .ref (A (i + 12)), .ref (A (i + 13)), .int (iI (q 3)), .ref (A (i + 14)), .ref (A (i + 15)), .ref (A (i + 16)), .int (iI (q 4))]) := by rw [hg_25, va_up_ne _ _ (by omega)]; exact hO
        have h1 : g_25 (i + 1) = aJ E 40000 (vp_updL nw (10 * a + k) (lI (xx k))) := by rw [hg_25, va_up_self]
        refine lv_iinc (v := iI (((k + 1 : Nat) : Int))) (lv' := [(4, .int (iI (((k + 1 : Nat) : Int)))), (0, .ref (A (i))), (1, .int (iI ((a : Int)))), (2, .long (lI (t)))]) X.1 X.2.1 dX11_times_26 hl (k := 3) rfl (by rw [show (Int32.ofInt (1)) = iI (1) from rfl, iI_add]; rfl) (by decide) rfl (fun ls hl => ?_)
        refine lv_goto (tgt := 3) X.1 X.2.1 dX11_times_29 (by decide) ?_
        exact ih_3 (k + 1) _ g_25 _ _ _ (by omega) (by omega) hO h1 (st_up hp) (st_up2 hr2) (fun j hj => by rw [ud_out (by omega) hj]; exact hou j hj) (fun j hj => by rw [hg_25, va_up_ne _ _ hj]; exact hfr j hj) hW (lv_sub hl [1, 2, 3, 0] rfl)
  exact loop_3 _ 0 nf g _ _ _ (Nat.lt_succ_self _) (by omega) hO h1 (fun j hj => absurd hj (Nat.not_lt_zero _)) (fun _ _ => rfl) (fun _ _ => rfl) (fun _ _ => rfl) hW (lv_sub hl [1, 2, 3, 0] rfl)

set_option maxHeartbeats 4000000 in
set_option maxRecDepth 100000 in
/-- more -/
theorem c_X11_more (l : Launch) (E : wE) (A : Nat → Nat) (n sz : Nat) (g : Nat → va_E) (i a b : Nat) (q : Nat → Int) (N : Nat → Int) (t : Int) (hi : i + 16 < n) (hO : g i = mO A i q) (ha : a < 4000) (hbb : b < 4000) (hab : a ≠ b) (hN : MN E A g i N) (ht1 : -4000000000 ≤ t) (ht2 : t ≤ 4000000000) (hb1 : -(10 ^ 80) < N a + N b * t) (hb2 : N a + N b * t < 10 ^ 80) : Met l yX11_more wsX11_more ({ frames := 3, cells := 0, slots := 0, locals := 100 } : Room) (va_Pc [.ref (A (i)), .int (iI ((a : Int))), .int (iI ((b : Int))), .long (lI (t))] (wPre E A n sz g)) (va_Qv (fun g' => MN E A g' i (va_up N a (N a + N b * t)) ∧ ∀ j, j ≠ i + 1 → g' j = g j) (wAt E A n) (wF A n sz)) 0 0 (wF A n sz) := by
  refine x_met (cc := cX11_more) (maxL := 6) (ret := none) [.ref (A (i)), .int (iI ((a : Int))), .int (iI ((b : Int))), .long (lI (t))] (by decide) rfl (Nat.le_of_ble_eq_true rfl) ?_
  intro p e s m below meth c ls X hr hlk hnm hsz hW hl
  have hl : lv_has ls 6 [(0, .ref (A (i))), (1, .int (iI ((a : Int)))), (2, .int (iI ((b : Int)))), (3, .long (lI (t)))] := hl
  have lk_0 : ∀ w ∈ wsX110, w ∈ wsX11_more := by decide +kernel
  have lk_1 : Cond.fieldLink RX11 10 (TX11 0).1 (TX11 0).2.1 (TX11 0).2.2.1 ∈ wsX11_more := by decide +kernel
  have hO : g i = .inr (11, [.ref (A (i + 1)), .ref (A (i + 2)), .ref (A (i + 3)), .ref (A (i + 4)), .int (iI (q 0)), .ref (A (i + 5)), .ref (A (i + 6)), .ref (A (i + 7)), .ref (A (i + 8)), .int (iI (q 1)), .ref (A (i + 9)), .ref (A (i + 10)), .ref (A (i + 11)), .int (iI (q 2)), .ref (A (i + 12)), .ref (A (i + 13)), .int (iI (q 3)), .ref (A (i + 14)), .ref (A (i + 15)), .ref (A (i + 16)), .int (iI (q 4))]) := hO
  obtain ⟨nf, h1, hN⟩ := hN
  obtain ⟨xx, hxx⟩ : ∃ xx : Nat → Int, xx = fun j => lm (N a) j + lm (N b) j * t := ⟨_, rfl⟩
  have hbx : ∀ k, k < 10 → -5000000000000000000 ≤ xx k ∧ xx k ≤ 5000000000000000000 := by
    intro k hk
    have h2 := lm_rng' (hN a ha) k hk
    have h3 := lm_rng' (hN b hbb) k hk
    have := mul_rng (a := lm (N b) k) (b := t) 1000000000 4000000000 (by omega) (by omega) (by omega) (by omega)
    rw [hxx]; show -5000000000000000000 ≤ lm (N a) k + lm (N b) k * t ∧ lm (N a) k + lm (N b) k * t ≤ 5000000000000000000; omega
  have hps : ps xx 10 = N a + N b * t := by
    rw [hxx, ps_lin, ps_lm, ps_lm]
  refine x_iconst X dX11_more_0 ?_
  refine lv_istore (lv' := [(5, .int (iI (0))), (0, .ref (A (i))), (1, .int (iI ((a : Int)))), (2, .int (iI ((b : Int)))), (3, .long (lI (t)))]) X.1 X.2.1 dX11_more_1 hl (by decide) rfl (fun ls hl => ?_)
  have loop_3 : ∀ (fuel : Nat) (k : Nat) (nw : Nat → Int64) (gw : Nat → va_E) (H : Heap) (locs : List Loc) (ls : Array Slot), (10 - k) < fuel → (k ≤ 10) → (gw i = .inr (11, [.ref (A (i + 1)), .ref (A (i + 2)), .ref (A (i + 3)), .ref (A (i + 4)), .int (iI (q 0)), .ref (A (i + 5)), .ref (A (i + 6)), .ref (A (i + 7)), .ref (A (i + 8)), .int (iI (q 1)), .ref (A (i + 9)), .ref (A (i + 10)), .ref (A (i + 11)), .int (iI (q 2)), .ref (A (i + 12)), .ref (A (i + 13)), .int (iI (q 3)), .ref (A (i + 14)), .ref (A (i + 15)), .ref (A (i + 16)), .int (iI (q 4))])) → (gw (i + 1) = aJ E 40000 nw) → (∀ j, j < k → nw (10 * a + j) = lI (xx j)) → (∀ j, k ≤ j → nw (10 * a + j) = nf (10 * a + j)) → (∀ j, (j < 10 * a ∨ 10 * a + 10 ≤ j) → nw j = nf j) → (∀ j, j ≠ i + 1 → gw j = g j) → wH E (wF A n sz) A n s gw H locs → lv_has ls 6 [(0, .ref (A (i))), (1, .int (iI ((a : Int)))), (2, .int (iI ((b : Int)))), (3, .long (lI (t))), (5, .int (iI ((k : Int))))] → W p l e ({ frames := 3, cells := 0, slots := 0, locals := 100 } : Room) s m [.ref (A (i)), .int (iI ((a : Int))), .int (iI ((b : Int))), .long (lI (t))].toArray below meth c H locs 0 0 (MQ below (va_Qv (fun g' => MN E A g' i (va_up N a (N a + N b * t)) ∧ ∀ j, j ≠ i + 1 → g' j = g j) (wAt E A n) (wF A n sz)) [.ref (A (i)), .int (iI ((a : Int))), .int (iI ((b : Int))), .long (lI (t))].toArray s 0 0 (wF A n sz)) (F0 m 3 ls []) := by
    intro fuel
    induction fuel with
    | zero => intro k nw gw H locs ls hm; exact absurd hm (Nat.not_lt_zero _)
    | succ fuel ih_3 =>
      intro k nw gw H locs ls hm hk hO h1 hp hr2 hou hfr hW hl
      refine lv_iload X.1 X.2.1 dX11_more_3 (lv_at hl 4 rfl) ?_
      refine x_bipush X (by decide) dX11_more_5 ?_
      refine x_icmp_ge (tgt := 45) X ⟨by omega, by omega⟩ ⟨by decide, by decide⟩ dX11_more_7 (by decide) (fun b_7 => ?_) (fun b_7 => ?_)
      · refine lv_aload_n X.1 X.2.1 dX11_more_45 rfl (lv_at hl 0 rfl) ?_
        refine lv_iload_n X.1 X.2.1 dX11_more_46 rfl (lv_at hl 1 rfl) ?_
        refine x_cv (x_runV (k := 1) (As := [.int (iI ((a : Int)))]) (rest := []) X hW (c_X11_carry l E A n _ gw i a q nw xx hi hO ha h1 (fun k hk => hp k (by omega)) hbx) (by omega) hO rfl gX11_more_X11_carry rfl rfl rfl (by decide +kernel) ⟨by decide, by decide⟩ rfl hl.1 rfl (Nat.le_of_ble_eq_true rfl) dX11_more_47 ⟨Nat.zero_le _, Nat.zero_le _⟩) hW (fun g_47 H locs hp_47 hW => ?_)
        obtain ⟨⟨nz, hz1, hz2, hz3⟩, hz4⟩ := hp_47
        exact x_vret X hr hlk hW (⟨MN_up (nf := nf) hz1 hN hb1 hb2 (fun k hk => by rw [hz2 k hk]; rw [hps]) (fun j hj => (hz3 j hj).trans (hou j hj)), fun j hj => (hz4 j hj).trans (hfr j hj)⟩) dX11_more_50
      · have hk9 : k < 10 := by omega
        refine lv_aload_n X.1 X.2.1 dX11_more_10 rfl (lv_at hl 0 rfl) ?_
        refine x_get (C := RX11) (T := TX11) (N := 21) X hW (by omega) hO rfl lk_0 0 (by decide) lk_1 rfl dX11_more_11 ?_
        refine x_bipush X (by decide) dX11_more_14 ?_
        refine lv_iload_n X.1 X.2.1 dX11_more_16 rfl (lv_at hl 1 rfl) ?_
        refine x_imul X dX11_more_17 ?_
        refine lv_iload X.1 X.2.1 dX11_more_18 (lv_at hl 4 rfl) ?_
        refine x_iadd X dX11_more_20 ?_
        refine lv_dup2_11 X.1 X.2.1 dX11_more_21 rfl rfl ?_
        refine x_lald X hW (by omega) h1 (v := lI (lm (N a) k)) (10 * a + k) (by omega) (by omega) (by decide) (by rw [hr2 k (Nat.le_refl k)]; exact (hN a ha).2.2 k hk9) dX11_more_22 ?_
        refine lv_aload_n X.1 X.2.1 dX11_more_23 rfl (lv_at hl 0 rfl) ?_
        refine x_get (C := RX11) (T := TX11) (N := 21) X hW (by omega) hO rfl lk_0 0 (by decide) lk_1 rfl dX11_more_24 ?_
        refine x_bipush X (by decide) dX11_more_27 ?_
        refine lv_iload_n X.1 X.2.1 dX11_more_29 rfl (lv_at hl 2 rfl) ?_
        refine x_imul X dX11_more_30 ?_
        refine lv_iload X.1 X.2.1 dX11_more_31 (lv_at hl 4 rfl) ?_
        refine x_iadd X dX11_more_33 ?_
        refine x_lald X hW (by omega) h1 (v := lI (lm (N b) k)) (10 * b + k) (by omega) (by omega) (by decide) (by rw [hou _ (by omega)]; exact (hN b hbb).2.2 k hk9) dX11_more_34 ?_
        refine lv_lload_n X.1 X.2.1 dX11_more_35 rfl (lv_at hl 3 rfl) ?_
        refine x_lmul X dX11_more_36 ?_
        refine x_ladd X dX11_more_37 ?_
        refine x_setl (xx k) (by rw [hxx]) ?_
        refine x_last X hW (by omega) h1 (10 * a + k) (by omega) (by omega) (by decide) dX11_more_38 (fun g_38 H locs hg_38 hW => ?_)
        have hO : g_38 i = .inr (11, [.ref (A (i + 1)), .ref (A (i + 2)), .ref (A (i + 3)), .ref (A (i + 4)), .int (iI (q 0)), .ref (A (i + 5)), .ref (A (i + 6)), .ref (A (i + 7)), .ref (A (i + 8)), .int (iI (q 1)), .ref (A (i + 9)), .ref (A (i + 10)), .ref (A (i + 11)), .int (iI (q 2)), .ref (A (i + 12)), .ref (A (i + 13)), .int (iI (q 3)), .ref (A (i + 14)), .ref (A (i + 15)), .ref (A (i + 16)), .int (iI (q 4))]) := by rw [hg_38, va_up_ne _ _ (by omega)]; exact hO
        have h1 : g_38 (i + 1) = aJ E 40000 (vp_updL nw (10 * a + k) (lI (xx k))) := by rw [hg_38, va_up_self]
        refine lv_iinc (v := iI (((k + 1 : Nat) : Int))) (lv' := [(5, .int (iI (((k + 1 : Nat) : Int)))), (0, .ref (A (i))), (1, .int (iI ((a : Int)))), (2, .int (iI ((b : Int)))), (3, .long (lI (t)))]) X.1 X.2.1 dX11_more_39 hl (k := 4) rfl (by rw [show (Int32.ofInt (1)) = iI (1) from rfl, iI_add]; rfl) (by decide) rfl (fun ls hl => ?_)
        refine lv_goto (tgt := 3) X.1 X.2.1 dX11_more_42 (by decide) ?_
        exact ih_3 (k + 1) _ g_38 _ _ _ (by omega) (by omega) hO h1 (st_up hp) (st_up2 hr2) (fun j hj => by rw [ud_out (by omega) hj]; exact hou j hj) (fun j hj => by rw [hg_38, va_up_ne _ _ hj]; exact hfr j hj) hW (lv_sub hl [1, 2, 3, 4, 0] rfl)
  exact loop_3 _ 0 nf g _ _ _ (Nat.lt_succ_self _) (by omega) hO h1 (fun j hj => absurd hj (Nat.not_lt_zero _)) (fun _ _ => rfl) (fun _ _ => rfl) (fun _ _ => rfl) hW (lv_sub hl [1, 2, 3, 4, 0] rfl)

set_option maxHeartbeats 4000000 in
set_option maxRecDepth 100000 in
/-- copy -/
theorem c_X11_copy (l : Launch) (E : wE) (A : Nat → Nat) (n sz : Nat) (g : Nat → va_E) (i a b : Nat) (q : Nat → Int) (N : Nat → Int) (hi : i + 16 < n) (hO : g i = mO A i q) (ha : a < 4000) (hbb : b < 4000) (hab : a ≠ b) (hN : MN E A g i N) : Met l yX11_copy wsX11_copy ({ frames := 1, cells := 0, slots := 0, locals := 60 } : Room) (va_Pc [.ref (A (i)), .int (iI ((a : Int))), .int (iI ((b : Int)))] (wPre E A n sz g)) (va_Qv (fun g' => MN E A g' i (va_up N a (N b)) ∧ ∀ j, j ≠ i + 1 → g' j = g j) (wAt E A n) (wF A n sz)) 0 0 (wF A n sz) := by
  refine x_met (cc := cX11_copy) (maxL := 4) (ret := none) [.ref (A (i)), .int (iI ((a : Int))), .int (iI ((b : Int)))] (by decide) rfl (Nat.le_of_ble_eq_true rfl) ?_
  intro p e s m below meth c ls X hr hlk hnm hsz hW hl
  have hl : lv_has ls 4 [(0, .ref (A (i))), (1, .int (iI ((a : Int)))), (2, .int (iI ((b : Int))))] := hl
  have lk_0 : ∀ w ∈ wsX110, w ∈ wsX11_copy := by decide +kernel
  have lk_1 : Cond.fieldLink RX11 10 (TX11 0).1 (TX11 0).2.1 (TX11 0).2.2.1 ∈ wsX11_copy := by decide +kernel
  have hO : g i = .inr (11, [.ref (A (i + 1)), .ref (A (i + 2)), .ref (A (i + 3)), .ref (A (i + 4)), .int (iI (q 0)), .ref (A (i + 5)), .ref (A (i + 6)), .ref (A (i + 7)), .ref (A (i + 8)), .int (iI (q 1)), .ref (A (i + 9)), .ref (A (i + 10)), .ref (A (i + 11)), .int (iI (q 2)), .ref (A (i + 12)), .ref (A (i + 13)), .int (iI (q 3)), .ref (A (i + 14)), .ref (A (i + 15)), .ref (A (i + 16)), .int (iI (q 4))]) := hO
  obtain ⟨nf, h1, hN⟩ := hN
  obtain ⟨xx, hxx⟩ : ∃ xx : Nat → Int, xx = lm (N b) := ⟨_, rfl⟩
  refine x_iconst X dX11_copy_0 ?_
  refine lv_istore_n (lv' := [(3, .int (iI (0))), (0, .ref (A (i))), (1, .int (iI ((a : Int)))), (2, .int (iI ((b : Int))))]) X.1 X.2.1 dX11_copy_1 rfl hl (by decide) rfl (fun ls hl => ?_)
  have loop_2 : ∀ (fuel : Nat) (k : Nat) (nw : Nat → Int64) (gw : Nat → va_E) (H : Heap) (locs : List Loc) (ls : Array Slot), (10 - k) < fuel → (k ≤ 10) → (gw i = .inr (11, [.ref (A (i + 1)), .ref (A (i + 2)), .ref (A (i + 3)), .ref (A (i + 4)), .int (iI (q 0)), .ref (A (i + 5)), .ref (A (i + 6)), .ref (A (i + 7)), .ref (A (i + 8)), .int (iI (q 1)), .ref (A (i + 9)), .ref (A (i + 10)), .ref (A (i + 11)), .int (iI (q 2)), .ref (A (i + 12)), .ref (A (i + 13)), .int (iI (q 3)), .ref (A (i + 14)), .ref (A (i + 15)), .ref (A (i + 16)), .int (iI (q 4))])) → (gw (i + 1) = aJ E 40000 nw) → (∀ j, j < k → nw (10 * a + j) = lI (xx j)) → (∀ j, k ≤ j → nw (10 * a + j) = nf (10 * a + j)) → (∀ j, (j < 10 * a ∨ 10 * a + 10 ≤ j) → nw j = nf j) → (∀ j, j ≠ i + 1 → gw j = g j) → wH E (wF A n sz) A n s gw H locs → lv_has ls 4 [(0, .ref (A (i))), (1, .int (iI ((a : Int)))), (2, .int (iI ((b : Int)))), (3, .int (iI ((k : Int))))] → W p l e ({ frames := 1, cells := 0, slots := 0, locals := 60 } : Room) s m [.ref (A (i)), .int (iI ((a : Int))), .int (iI ((b : Int)))].toArray below meth c H locs 0 0 (MQ below (va_Qv (fun g' => MN E A g' i (va_up N a (N b)) ∧ ∀ j, j ≠ i + 1 → g' j = g j) (wAt E A n) (wF A n sz)) [.ref (A (i)), .int (iI ((a : Int))), .int (iI ((b : Int)))].toArray s 0 0 (wF A n sz)) (F0 m 2 ls []) := by
    intro fuel
    induction fuel with
    | zero => intro k nw gw H locs ls hm; exact absurd hm (Nat.not_lt_zero _)
    | succ fuel ih_2 =>
      intro k nw gw H locs ls hm hk hO h1 hp hr2 hou hfr hW hl
      refine lv_iload_n X.1 X.2.1 dX11_copy_2 rfl (lv_at hl 3 rfl) ?_
      refine x_bipush X (by decide) dX11_copy_3 ?_
      refine x_icmp_ge (tgt := 36) X ⟨by omega, by omega⟩ ⟨by decide, by decide⟩ dX11_copy_5 (by decide) (fun b_5 => ?_) (fun b_5 => ?_)
      · exact x_vret X hr hlk hW (⟨MN_up (nf := nf) h1 hN (hN b hbb).1 (hN b hbb).2.1 (fun k hk => by rw [hp k (by omega), hxx]) hou, hfr⟩) dX11_copy_36
      · have hk9 : k < 10 := by omega
        refine lv_aload_n X.1 X.2.1 dX11_copy_8 rfl (lv_at hl 0 rfl) ?_
        refine x_get (C := RX11) (T := TX11) (N := 21) X hW (by omega) hO rfl lk_0 0 (by decide) lk_1 rfl dX11_copy_9 ?_
        refine x_bipush X (by decide) dX11_copy_12 ?_
        refine lv_iload_n X.1 X.2.1 dX11_copy_14 rfl (lv_at hl 1 rfl) ?_
        refine x_imul X dX11_copy_15 ?_
        refine lv_iload_n X.1 X.2.1 dX11_copy_16 rfl (lv_at hl 3 rfl) ?_
        refine x_iadd X dX11_copy_17 ?_
        refine lv_aload_n X.1 X.2.1 dX11_copy_18 rfl (lv_at hl 0 rfl) ?_
        refine x_get (C := RX11) (T := TX11) (N := 21) X hW (by omega) hO rfl lk_0 0 (by decide) lk_1 rfl dX11_copy_19 ?_
        refine x_bipush X (by decide) dX11_copy_22 ?_
        refine lv_iload_n X.1 X.2.1 dX11_copy_24 rfl (lv_at hl 2 rfl) ?_
        refine x_imul X dX11_copy_25 ?_
        refine lv_iload_n X.1 X.2.1 dX11_copy_26 rfl (lv_at hl 3 rfl) ?_
        refine x_iadd X dX11_copy_27 ?_
        refine x_lald X hW (by omega) h1 (v := lI (xx k)) (10 * b + k) (by omega) (by omega) (by decide) (by rw [hou _ (by omega), hxx]; exact (hN b hbb).2.2 k hk9) dX11_copy_28 ?_
        refine x_last X hW (by omega) h1 (10 * a + k) (by omega) (by omega) (by decide) dX11_copy_29 (fun g_29 H locs hg_29 hW => ?_)
        have hO : g_29 i = .inr (11, [.ref (A (i + 1)), .ref (A (i + 2)), .ref (A (i + 3)), .ref (A (i + 4)), .int (iI (q 0)), .ref (A (i + 5)), .ref (A (i + 6)), .ref (A (i + 7)), .ref (A (i + 8)), .int (iI (q 1)), .ref (A (i + 9)), .ref (A (i + 10)), .ref (A (i + 11)), .int (iI (q 2)), .ref (A (i + 12)), .ref (A (i + 13)), .int (iI (q 3)), .ref (A (i + 14)), .ref (A (i + 15)), .ref (A (i + 16)), .int (iI (q 4))]) := by rw [hg_29, va_up_ne _ _ (by omega)]; exact hO
        have h1 : g_29 (i + 1) = aJ E 40000 (vp_updL nw (10 * a + k) (lI (xx k))) := by rw [hg_29, va_up_self]
        refine lv_iinc (v := iI (((k + 1 : Nat) : Int))) (lv' := [(3, .int (iI (((k + 1 : Nat) : Int)))), (0, .ref (A (i))), (1, .int (iI ((a : Int)))), (2, .int (iI ((b : Int))))]) X.1 X.2.1 dX11_copy_30 hl (k := 3) rfl (by rw [show (Int32.ofInt (1)) = iI (1) from rfl, iI_add]; rfl) (by decide) rfl (fun ls hl => ?_)
        refine lv_goto (tgt := 2) X.1 X.2.1 dX11_copy_33 (by decide) ?_
        exact ih_2 (k + 1) _ g_29 _ _ _ (by omega) (by omega) hO h1 (st_up hp) (st_up2 hr2) (fun j hj => by rw [ud_out (by omega) hj]; exact hou j hj) (fun j hj => by rw [hg_29, va_up_ne _ _ hj]; exact hfr j hj) hW (lv_sub hl [1, 2, 3, 0] rfl)
  exact loop_2 _ 0 nf g _ _ _ (Nat.lt_succ_self _) (by omega) hO h1 (fun j hj => absurd hj (Nat.not_lt_zero _)) (fun _ _ => rfl) (fun _ _ => rfl) (fun _ _ => rfl) hW (lv_sub hl [1, 2, 3, 0] rfl)
