theorem lm_nat {v : Nat} (hv : (v : Int) < 10 ^ 80) {k : Nat} (hk : k < 10) : lm (v : Int) k = ((dg v k : Nat) : Int) := by
  have e : ((v / 1000000000 ^ k : Nat) : Int) = (v : Int) / 1000000000 ^ k := by rw [Int.natCast_ediv, Int.natCast_pow]; rfl
  unfold lm dg
  rw [← e]
  by_cases h : k < 9
  · rw [if_pos h]; omega
  · obtain rfl : k = 9 := by omega
    rw [if_neg h]
    have : v / 1000000000 ^ 9 < 1000000000 := Nat.div_lt_of_lt_mul (by omega)
    rw [Nat.mod_eq_of_lt this]
theorem lm_hi {u v : Int} (d : Nat) : ∀ t, t + d = 9 → (∀ j, t ≤ j → j < 10 → lm u j = lm v j) → u / 1000000000 ^ t = v / 1000000000 ^ t := by
  induction d with
  | zero =>
    intro t ht h
    obtain rfl : t = 9 := by omega
    have := h 9 (Nat.le_refl 9) (by omega)
    unfold lm at this
    rw [if_neg (by omega), if_neg (by omega)] at this
    exact this
  | succ d ih =>
    intro t ht h
    have h1 := ih (t + 1) (by omega) (fun j hj hj2 => h j (by omega) hj2)
    have h2 := h t (Nat.le_refl t) (by omega)
    unfold lm at h2
    rw [if_pos (by omega), if_pos (by omega)] at h2
    rw [Int.pow_succ, ← Int.ediv_ediv_of_nonneg (Int.le_of_lt (bpI t)), ← Int.ediv_ediv_of_nonneg (Int.le_of_lt (bpI t))] at h1
    omega
theorem lm_cmp {u v : Int} {t : Nat} (ht : t < 10) (h : ∀ j, t < j → j < 10 → lm u j = lm v j) (hl : lm u t < lm v t) : u < v := by
  apply Decidable.byContradiction
  intro hc
  have h1 : v / 1000000000 ^ t ≤ u / 1000000000 ^ t := Int.ediv_le_ediv (bpI t) (by omega)
  by_cases h9 : t = 9
  · subst h9
    unfold lm at hl
    rw [if_neg (by omega), if_neg (by omega)] at hl
    omega
  · have h2 := lm_hi (8 - t) (t + 1) (by omega) (fun j hj hj2 => h j (by omega) hj2)
    unfold lm at hl
    rw [if_pos (by omega), if_pos (by omega)] at hl
    rw [Int.pow_succ, ← Int.ediv_ediv_of_nonneg (Int.le_of_lt (bpI t)), ← Int.ediv_ediv_of_nonneg (Int.le_of_lt (bpI t))] at h2
    omega
theorem lm_ext {u v : Int} (h : ∀ j, j < 10 → lm u j = lm v j) : u = v := by rw [← ps_lm u, ← ps_lm v, ps_congr 10 h]
theorem lm_cmp3 {u v : Int} {t : Nat} (ht : t < 10) (h : ∀ j, t < j → j < 10 → lm u j = lm v j) (hne : lm u t ≠ lm v t) : (if u < v then (-1 : Int) else if u = v then 0 else 1) = if lm u t < lm v t then -1 else 1 := by
  by_cases h1 : lm u t < lm v t
  · rw [if_pos h1, if_pos (lm_cmp ht h h1)]
  · have := lm_cmp ht (fun j a b => (h j a b).symm) (show lm v t < lm u t by omega)
    rw [if_neg h1, if_neg (by omega), if_neg (by omega)]
theorem lm_0 (k : Nat) : lm 0 k = 0 := by
  unfold lm; rw [Int.zero_ediv]; split <;> rfl
theorem MN_at {E : wE} {A : Nat → Nat} {g : Nat → va_E} {i : Nat} {N : Nat → Int} (h : MN E A g i N) {a : Nat} (ha : a < 4000) : -(10 ^ 80) < N a ∧ N a < 10 ^ 80 := by
  obtain ⟨nf, _, h2⟩ := h
  exact ⟨(h2 a ha).1, (h2 a ha).2.1⟩
/-- the top limb tells the sign -/
theorem lm_top {v : Int} (h1 : -(10 ^ 80) < v) (h2 : v < 10 ^ 80) : (lm v 9 < 0 ↔ v < 0) ∧ I64 (lm v 9) := by
  have h := lm_rng (v := v) (by omega) (by omega) 9 (by omega)
  refine ⟨?_, ⟨by omega, by omega⟩⟩
  unfold lm
  rw [if_neg (by omega)]
  omega
theorem MN_frame {E : wE} {A : Nat → Nat} {g g' : Nat → va_E} {i : Nat} {N : Nat → Int} (h : MN E A g i N) (hg : g' (i + 1) = g (i + 1)) : MN E A g' i N := by
  obtain ⟨nf, h1, h2⟩ := h
  exact ⟨nf, by rw [hg]; exact h1, h2⟩

theorem ov_up {nf : Nat → Int64} {u v a k : Nat} (hp : ∀ j, j < 10 → nf (10 * a + j) = lI ((if j < k + 1 then dg v j else dg u j : Nat) : Int)) (hk : k < 10) : ∀ j, j < 10 → vp_updL nf (10 * a + k) (lI ((dg u k : Nat) : Int)) (10 * a + j) = lI ((if j < k then dg v j else dg u j : Nat) : Int) := by
  intro j hj
  rw [ud_in]
  by_cases h : j = k
  · subst h; rw [if_pos rfl, if_neg (by omega)]
  · rw [if_neg h, hp j hj]
    by_cases h2 : j < k
    · rw [if_pos h2, if_pos (by omega)]
    · rw [if_neg h2, if_neg (by omega)]

set_option maxHeartbeats 4000000 in
set_option maxRecDepth 100000 in
/-- over -/
theorem c_X11_over (l : Launch) (E : wE) (A : Nat → Nat) (n sz : Nat) (g : Nat → va_E) (i a : Nat) (q : Nat → Int) (N : Nat → Int) (v d : Nat) (hi : i + 16 < n) (hO : g i = mO A i q) (ha : a < 4000) (hN : MN E A g i N) (hv : N a = (v : Int)) (hd : 0 < d) (hd2 : d ≤ 4000000000) : Met l yX11_over wsX11_over ({ frames := 1, cells := 0, slots := 0, locals := 60 } : Room) (va_Pc [.ref (A (i)), .int (iI ((a : Int))), .long (lI ((d : Int)))] (wPre E A n sz g)) (va_Qv (fun g' => MN E A g' i (va_up N a ((v / d : Nat) : Int)) ∧ ∀ j, j ≠ i + 1 → g' j = g j) (wAt E A n) (wF A n sz)) 0 0 (wF A n sz) := by
  refine x_met (cc := cX11_over) (maxL := 9) (ret := none) [.ref (A (i)), .int (iI ((a : Int))), .long (lI ((d : Int)))] (by decide) rfl (Nat.le_of_ble_eq_true rfl) ?_
  intro p e s m below meth c ls X hr hlk hnm hsz hW hl
  have hl : lv_has ls 9 [(0, .ref (A (i))), (1, .int (iI ((a : Int)))), (2, .long (lI ((d : Int))))] := hl
  have lk_0 : Cond.constantLong RX11 64 (1000000000) ∈ wsX11_over := by decide +kernel
  have lk_1 : ∀ w ∈ wsX110, w ∈ wsX11_over := by decide +kernel
  have lk_2 : Cond.fieldLink RX11 10 (TX11 0).1 (TX11 0).2.1 (TX11 0).2.2.1 ∈ wsX11_over := by decide +kernel
  have hO : g i = .inr (11, [.ref (A (i + 1)), .ref (A (i + 2)), .ref (A (i + 3)), .ref (A (i + 4)), .int (iI (q 0)), .ref (A (i + 5)), .ref (A (i + 6)), .ref (A (i + 7)), .ref (A (i + 8)), .int (iI (q 1)), .ref (A (i + 9)), .ref (A (i + 10)), .ref (A (i + 11)), .int (iI (q 2)), .ref (A (i + 12)), .ref (A (i + 13)), .int (iI (q 3)), .ref (A (i + 14)), .ref (A (i + 15)), .ref (A (i + 16)), .int (iI (q 4))]) := hO
  obtain ⟨nf, h1, hN⟩ := hN
  have hva := hN a ha
  rw [hv] at hva
  have hv8 : (v : Int) < 10 ^ 80 := hva.2.1
  refine x_lconst X 0 (by decide) dX11_over_0 ?_
  refine x_setl (((dvR v d 10 : Nat) : Int)) (by unfold dvR; rw [Nat.div_eq_of_lt (by omega), Nat.zero_mod]; rfl) ?_
  refine lv_lstore (lv' := [(4, .long (lI (((dvR v d 10 : Nat) : Int)))), (0, .ref (A (i))), (1, .int (iI ((a : Int)))), (2, .long (lI ((d : Int))))]) X.1 X.2.1 dX11_over_1 hl (by decide) rfl (fun ls hl => ?_)
  refine x_bipush X (by decide) dX11_over_3 ?_
  refine x_seti (((10 : Nat) : Int) - 1) rfl ?_
  refine lv_istore (lv' := [(6, .int (iI (((10 : Nat) : Int) - 1))), (4, .long (lI (((dvR v d 10 : Nat) : Int)))), (0, .ref (A (i))), (1, .int (iI ((a : Int)))), (2, .long (lI ((d : Int))))]) X.1 X.2.1 dX11_over_5 hl (by decide) rfl (fun ls hl => ?_)
  have loop_7 : ∀ (fuel : Nat) (k : Nat) (nw : Nat → Int64) (gw : Nat → va_E) (H : Heap) (locs : List Loc) (ls : Array Slot), (k) < fuel → (k ≤ 10) → (gw i = .inr (11, [.ref (A (i + 1)), .ref (A (i + 2)), .ref (A (i + 3)), .ref (A (i + 4)), .int (iI (q 0)), .ref (A (i + 5)), .ref (A (i + 6)), .ref (A (i + 7)), .ref (A (i + 8)), .int (iI (q 1)), .ref (A (i + 9)), .ref (A (i + 10)), .ref (A (i + 11)), .int (iI (q 2)), .ref (A (i + 12)), .ref (A (i + 13)), .int (iI (q 3)), .ref (A (i + 14)), .ref (A (i + 15)), .ref (A (i + 16)), .int (iI (q 4))])) → (gw (i + 1) = aJ E 40000 nw) → (∀ j, j < 10 → nw (10 * a + j) = lI ((if j < k then dg v j else dg (v / d) j : Nat) : Int)) → (∀ j, (j < 10 * a ∨ 10 * a + 10 ≤ j) → nw j = nf j) → (∀ j, j ≠ i + 1 → gw j = g j) → wH E (wF A n sz) A n s gw H locs → lv_has ls 9 [(0, .ref (A (i))), (1, .int (iI ((a : Int)))), (2, .long (lI ((d : Int)))), (4, .long (lI (((dvR v d k : Nat) : Int)))), (6, .int (iI ((k : Int) - 1)))] → W p l e ({ frames := 1, cells := 0, slots := 0, locals := 60 } : Room) s m [.ref (A (i)), .int (iI ((a : Int))), .long (lI ((d : Int)))].toArray below meth c H locs 0 0 (MQ below (va_Qv (fun g' => MN E A g' i (va_up N a ((v / d : Nat) : Int)) ∧ ∀ j, j ≠ i + 1 → g' j = g j) (wAt E A n) (wF A n sz)) [.ref (A (i)), .int (iI ((a : Int))), .long (lI ((d : Int)))].toArray s 0 0 (wF A n sz)) (F0 m 7 ls []) := by
    intro fuel
    induction fuel with
    | zero => intro k nw gw H locs ls hm; exact absurd hm (Nat.not_lt_zero _)
    | succ fuel ih_7 =>
      intro k nw gw H locs ls hm hk hO h1 hp hou hfr hW hl
      refine lv_iload X.1 X.2.1 dX11_over_7 (lv_at hl 4 rfl) ?_
      refine x_if_lt (tgt := 61) X ⟨by omega, by omega⟩ dX11_over_9 (by decide) (fun b_9 => ?_) (fun b_9 => ?_)
      · exact x_vret X hr hlk hW (⟨MN_up (nf := nf) h1 hN (by have := Int.natCast_nonneg (v / d); omega) (by have := Nat.div_le_self v d; omega) (fun k9 hk9 => by rw [hp k9 hk9, if_neg (by omega), lm_nat (by have := Nat.div_le_self v d; omega) hk9]) hou, hfr⟩) dX11_over_61
      · obtain ⟨t, ht⟩ : ∃ t, k = t + 1 := ⟨k - 1, by omega⟩
        have hrd : dvR v d (t + 1) < d := Nat.mod_lt _ hd
        have hgd := dg_lt v t
        have hX : dvR v d (t + 1) * 1000000000 + dg v t < 9223372036854775808 := by omega
        refine lv_lload X.1 X.2.1 dX11_over_12 (lv_at hl 3 rfl) ?_
        refine x_ldc2 X (1000000000) (by decide) lk_0 dX11_over_14 ?_
        refine x_lmul X dX11_over_17 ?_
        refine lv_aload_n X.1 X.2.1 dX11_over_18 rfl (lv_at hl 0 rfl) ?_
        refine x_get (C := RX11) (T := TX11) (N := 21) X hW (by omega) hO rfl lk_1 0 (by decide) lk_2 rfl dX11_over_19 ?_
        refine x_bipush X (by decide) dX11_over_22 ?_
        refine lv_iload_n X.1 X.2.1 dX11_over_24 rfl (lv_at hl 1 rfl) ?_
        refine x_imul X dX11_over_25 ?_
        refine lv_iload X.1 X.2.1 dX11_over_26 (lv_at hl 4 rfl) ?_
        refine x_iadd X dX11_over_28 ?_
        refine x_lald X hW (by omega) h1 (v := lI (((dg v t : Nat) : Int))) (10 * a + t) (by omega) (by omega) (by decide) (by rw [hp t (by omega), if_pos (by omega)]) dX11_over_29 ?_
        refine x_ladd X dX11_over_30 ?_
        refine x_setl (((dvR v d (t + 1) * 1000000000 + dg v t : Nat) : Int)) (by rw [ht]; omega) ?_
        refine lv_lstore (lv' := [(7, .long (lI (((dvR v d (t + 1) * 1000000000 + dg v t : Nat) : Int)))), (0, .ref (A (i))), (1, .int (iI ((a : Int)))), (2, .long (lI ((d : Int)))), (4, .long (lI (((dvR v d k : Nat) : Int)))), (6, .int (iI ((k : Int) - 1)))]) X.1 X.2.1 dX11_over_31 hl (by decide) rfl (fun ls hl => ?_)
        refine lv_aload_n X.1 X.2.1 dX11_over_33 rfl (lv_at hl 1 rfl) ?_
        refine x_get (C := RX11) (T := TX11) (N := 21) X hW (by omega) hO rfl lk_1 0 (by decide) lk_2 rfl dX11_over_34 ?_
        refine x_bipush X (by decide) dX11_over_37 ?_
        refine lv_iload_n X.1 X.2.1 dX11_over_39 rfl (lv_at hl 2 rfl) ?_
        refine x_imul X dX11_over_40 ?_
        refine lv_iload X.1 X.2.1 dX11_over_41 (lv_at hl 5 rfl) ?_
        refine x_iadd X dX11_over_43 ?_
        refine lv_lload X.1 X.2.1 dX11_over_44 (lv_at hl 0 rfl) ?_
        refine lv_lload_n X.1 X.2.1 dX11_over_46 rfl (lv_at hl 3 rfl) ?_
        refine x_ldiv X ⟨by omega, by omega⟩ ⟨by omega, by omega⟩ (by omega) (by omega) dX11_over_47 ?_
        refine x_setl (((dg (v / d) t : Nat) : Int)) (by rw [← dv_dig hd]; omega) ?_
        refine x_last X hW (by omega) h1 (10 * a + t) (by omega) (by omega) (by decide) dX11_over_48 (fun g_48 H locs hg_48 hW => ?_)
        have hO : g_48 i = .inr (11, [.ref (A (i + 1)), .ref (A (i + 2)), .ref (A (i + 3)), .ref (A (i + 4)), .int (iI (q 0)), .ref (A (i + 5)), .ref (A (i + 6)), .ref (A (i + 7)), .ref (A (i + 8)), .int (iI (q 1)), .ref (A (i + 9)), .ref (A (i + 10)), .ref (A (i + 11)), .int (iI (q 2)), .ref (A (i + 12)), .ref (A (i + 13)), .int (iI (q 3)), .ref (A (i + 14)), .ref (A (i + 15)), .ref (A (i + 16)), .int (iI (q 4))]) := by rw [hg_48, va_up_ne _ _ (by omega)]; exact hO
        have h1 : g_48 (i + 1) = aJ E 40000 (vp_updL nw (10 * a + t) (lI (((dg (v / d) t : Nat) : Int)))) := by rw [hg_48, va_up_self]
        refine lv_lload X.1 X.2.1 dX11_over_49 (lv_at hl 0 rfl) ?_
        refine lv_lload_n X.1 X.2.1 dX11_over_51 rfl (lv_at hl 3 rfl) ?_
        refine x_lrem X ⟨by omega, by omega⟩ ⟨by omega, by omega⟩ (by omega) (by omega) dX11_over_52 ?_
        refine x_setl (((dvR v d t : Nat) : Int)) (by rw [← dv_next (v := v) (d := d) (k := t)]; omega) ?_
        refine lv_lstore (lv' := [(4, .long (lI (((dvR v d t : Nat) : Int)))), (7, .long (lI (((dvR v d (t + 1) * 1000000000 + dg v t : Nat) : Int)))), (0, .ref (A (i))), (1, .int (iI ((a : Int)))), (2, .long (lI ((d : Int)))), (6, .int (iI ((k : Int) - 1)))]) X.1 X.2.1 dX11_over_53 hl (by decide) rfl (fun ls hl => ?_)
        refine lv_iinc (v := iI ((t : Int) - 1)) (lv' := [(6, .int (iI ((t : Int) - 1))), (4, .long (lI (((dvR v d t : Nat) : Int)))), (7, .long (lI (((dvR v d (t + 1) * 1000000000 + dg v t : Nat) : Int)))), (0, .ref (A (i))), (1, .int (iI ((a : Int)))), (2, .long (lI ((d : Int))))]) X.1 X.2.1 dX11_over_55 hl (k := 5) rfl (by rw [show (Int32.ofInt (-1)) = iI (-1) from rfl, iI_add]; congr 1; omega) (by decide) rfl (fun ls hl => ?_)
        refine lv_goto (tgt := 7) X.1 X.2.1 dX11_over_58 (by decide) ?_
        exact ih_7 t _ g_48 _ _ _ (by omega) (by omega) hO h1 (ov_up (by rw [← ht]; exact hp) (by omega)) (fun j hj => by rw [ud_out (by omega) hj]; exact hou j hj) (fun j hj => by rw [hg_48, va_up_ne _ _ hj]; exact hfr j hj) hW (lv_sub hl [3, 4, 5, 1, 0] rfl)
  exact loop_7 _ 10 nf g _ _ _ (Nat.lt_succ_self _) (by omega) hO h1 (fun j hj => by rw [if_pos (by omega), ← lm_nat hv8 hj]; exact hva.2.2 j hj) (fun _ _ => rfl) (fun _ _ => rfl) hW (lv_sub hl [2, 3, 4, 1, 0] rfl)

set_option maxHeartbeats 4000000 in
set_option maxRecDepth 100000 in
/-- compared -/
theorem c_X11_compared (l : Launch) (E : wE) (A : Nat → Nat) (n sz : Nat) (g : Nat → va_E) (i a b : Nat) (q : Nat → Int) (N : Nat → Int) (hi : i + 16 < n) (hO : g i = mO A i q) (ha : a < 4000) (hbb : b < 4000) (hN : MN E A g i N) : Met l yX11_compared wsX11_compared ({ frames := 1, cells := 0, slots := 0, locals := 60 } : Room) (va_Pc [.ref (A (i)), .int (iI ((a : Int))), .int (iI ((b : Int)))] (wPre E A n sz g)) (va_Qi (fun r g' => r = iI (if N a < N b then -1 else if N a = N b then 0 else 1) ∧ g' = g) (wAt E A n) (wF A n sz)) 0 0 (wF A n sz) := by
  refine x_met (cc := cX11_compared) (maxL := 8) (ret := (some .int)) [.ref (A (i)), .int (iI ((a : Int))), .int (iI ((b : Int)))] (by decide) rfl (Nat.le_of_ble_eq_true rfl) ?_
  intro p e s m below meth c ls X hr hlk hnm hsz hW hl
  have hl : lv_has ls 8 [(0, .ref (A (i))), (1, .int (iI ((a : Int)))), (2, .int (iI ((b : Int))))] := hl
  have lk_0 : ∀ w ∈ wsX110, w ∈ wsX11_compared := by decide +kernel
  have lk_1 : Cond.fieldLink RX11 10 (TX11 0).1 (TX11 0).2.1 (TX11 0).2.2.1 ∈ wsX11_compared := by decide +kernel
  have hO : g i = .inr (11, [.ref (A (i + 1)), .ref (A (i + 2)), .ref (A (i + 3)), .ref (A (i + 4)), .int (iI (q 0)), .ref (A (i + 5)), .ref (A (i + 6)), .ref (A (i + 7)), .ref (A (i + 8)), .int (iI (q 1)), .ref (A (i + 9)), .ref (A (i + 10)), .ref (A (i + 11)), .int (iI (q 2)), .ref (A (i + 12)), .ref (A (i + 13)), .int (iI (q 3)), .ref (A (i + 14)), .ref (A (i + 15)), .ref (A (i + 16)), .int (iI (q 4))]) := hO
  obtain ⟨nf, h1, hN⟩ := hN
  refine x_bipush X (by decide) dX11_compared_0 ?_
  refine x_seti (((10 : Nat) : Int) - 1) rfl ?_
  refine lv_istore_n (lv' := [(3, .int (iI (((10 : Nat) : Int) - 1))), (0, .ref (A (i))), (1, .int (iI ((a : Int)))), (2, .int (iI ((b : Int))))]) X.1 X.2.1 dX11_compared_2 rfl hl (by decide) rfl (fun ls hl => ?_)
  have loop_3 : ∀ (fuel : Nat) (k : Nat) (gw : Nat → va_E) (H : Heap) (locs : List Loc) (ls : Array Slot), (k) < fuel → (k ≤ 10) → (∀ j, k ≤ j → j < 10 → lm (N a) j = lm (N b) j) → (gw = g) → wH E (wF A n sz) A n s gw H locs → lv_has ls 8 [(0, .ref (A (i))), (1, .int (iI ((a : Int)))), (2, .int (iI ((b : Int)))), (3, .int (iI ((k : Int) - 1)))] → W p l e ({ frames := 1, cells := 0, slots := 0, locals := 60 } : Room) s m [.ref (A (i)), .int (iI ((a : Int))), .int (iI ((b : Int)))].toArray below meth c H locs 0 0 (MQ below (va_Qi (fun r g' => r = iI (if N a < N b then -1 else if N a = N b then 0 else 1) ∧ g' = g) (wAt E A n) (wF A n sz)) [.ref (A (i)), .int (iI ((a : Int))), .int (iI ((b : Int)))].toArray s 0 0 (wF A n sz)) (F0 m 3 ls []) := by
    intro fuel
    induction fuel with
    | zero => intro k gw H locs ls hm; exact absurd hm (Nat.not_lt_zero _)
    | succ fuel ih_3 =>
      intro k gw H locs ls hm hk hs hgg hW hl
      have hO : gw i = .inr (11, [.ref (A (i + 1)), .ref (A (i + 2)), .ref (A (i + 3)), .ref (A (i + 4)), .int (iI (q 0)), .ref (A (i + 5)), .ref (A (i + 6)), .ref (A (i + 7)), .ref (A (i + 8)), .int (iI (q 1)), .ref (A (i + 9)), .ref (A (i + 10)), .ref (A (i + 11)), .int (iI (q 2)), .ref (A (i + 12)), .ref (A (i + 13)), .int (iI (q 3)), .ref (A (i + 14)), .ref (A (i + 15)), .ref (A (i + 16)), .int (iI (q 4))]) := by rw [hgg]; exact hO
      have h1 : gw (i + 1) = aJ E 40000 nf := by rw [hgg]; exact h1
      refine lv_iload_n X.1 X.2.1 dX11_compared_3 rfl (lv_at hl 3 rfl) ?_
      refine x_if_lt (tgt := 61) X ⟨by omega, by omega⟩ dX11_compared_4 (by decide) (fun b_4 => ?_) (fun b_4 => ?_)
      · refine x_iconst X dX11_compared_61 ?_
        exact x_iret X hr hlk hW (⟨by rw [lm_ext (u := N a) (v := N b) (fun j hj => hs j (by omega) hj), if_neg (by omega), if_pos rfl], hgg⟩) dX11_compared_62
      · obtain ⟨t, ht⟩ : ∃ t, k = t + 1 := ⟨k - 1, by omega⟩
        have hA9 := lm_I64 (hN a ha) t (by omega)
        have hB9 := lm_I64 (hN b hbb) t (by omega)
        refine lv_aload_n X.1 X.2.1 dX11_compared_7 rfl (lv_at hl 0 rfl) ?_
        refine x_get (C := RX11) (T := TX11) (N := 21) X hW (by omega) hO rfl lk_0 0 (by decide) lk_1 rfl dX11_compared_8 ?_
        refine x_bipush X (by decide) dX11_compared_11 ?_
        refine lv_iload_n X.1 X.2.1 dX11_compared_13 rfl (lv_at hl 1 rfl) ?_
        refine x_imul X dX11_compared_14 ?_
        refine lv_iload_n X.1 X.2.1 dX11_compared_15 rfl (lv_at hl 3 rfl) ?_
        refine x_iadd X dX11_compared_16 ?_
        refine x_lald X hW (by omega) h1 (v := lI (lm (N a) t)) (10 * a + t) (by omega) (by omega) (by decide) ((hN a ha).2.2 t (by omega)) dX11_compared_17 ?_
        refine lv_lstore (lv' := [(4, .long (lI (lm (N a) t))), (0, .ref (A (i))), (1, .int (iI ((a : Int)))), (2, .int (iI ((b : Int)))), (3, .int (iI ((k : Int) - 1)))]) X.1 X.2.1 dX11_compared_18 hl (by decide) rfl (fun ls hl => ?_)
        refine lv_aload_n X.1 X.2.1 dX11_compared_20 rfl (lv_at hl 1 rfl) ?_
        refine x_get (C := RX11) (T := TX11) (N := 21) X hW (by omega) hO rfl lk_0 0 (by decide) lk_1 rfl dX11_compared_21 ?_
        refine x_bipush X (by decide) dX11_compared_24 ?_
        refine lv_iload_n X.1 X.2.1 dX11_compared_26 rfl (lv_at hl 3 rfl) ?_
        refine x_imul X dX11_compared_27 ?_
        refine lv_iload_n X.1 X.2.1 dX11_compared_28 rfl (lv_at hl 4 rfl) ?_
        refine x_iadd X dX11_compared_29 ?_
        refine x_lald X hW (by omega) h1 (v := lI (lm (N b) t)) (10 * b + t) (by omega) (by omega) (by decide) ((hN b hbb).2.2 t (by omega)) dX11_compared_30 ?_
        refine lv_lstore (lv' := [(6, .long (lI (lm (N b) t))), (4, .long (lI (lm (N a) t))), (0, .ref (A (i))), (1, .int (iI ((a : Int)))), (2, .int (iI ((b : Int)))), (3, .int (iI ((k : Int) - 1)))]) X.1 X.2.1 dX11_compared_31 hl (by decide) rfl (fun ls hl => ?_)
        refine lv_lload X.1 X.2.1 dX11_compared_33 (lv_at hl 1 rfl) ?_
        refine lv_lload X.1 X.2.1 dX11_compared_35 (lv_at hl 0 rfl) ?_
        refine x_lcmp_eq (tgt := 55) X hA9 hB9 dX11_compared_37 dX11_compared_38 (by decide) (fun b_37 => ?_) (fun b_37 => ?_)
        · refine lv_iinc (v := iI ((t : Int) - 1)) (lv' := [(3, .int (iI ((t : Int) - 1))), (6, .long (lI (lm (N b) t))), (4, .long (lI (lm (N a) t))), (0, .ref (A (i))), (1, .int (iI ((a : Int)))), (2, .int (iI ((b : Int))))]) X.1 X.2.1 dX11_compared_55 hl (k := 5) rfl (by rw [show (Int32.ofInt (-1)) = iI (-1) from rfl, iI_add]; congr 1; omega) (by decide) rfl (fun ls hl => ?_)
          refine lv_goto (tgt := 3) X.1 X.2.1 dX11_compared_58 (by decide) ?_
          exact ih_3 t gw _ _ _ (by omega) (by omega) (fun j hj hj2 => if ej : j = t then (by rw [ej]; exact b_37) else hs j (by omega) hj2) hgg hW (lv_sub hl [3, 4, 5, 0] rfl)
        · have hc3 := lm_cmp3 (u := N a) (v := N b) (t := t) (by omega) (fun j hj hj2 => hs j (by omega) hj2) b_37
          refine lv_lload X.1 X.2.1 dX11_compared_41 (lv_at hl 1 rfl) ?_
          refine lv_lload X.1 X.2.1 dX11_compared_43 (lv_at hl 0 rfl) ?_
          refine x_lcmp_ge (tgt := 53) X hA9 hB9 dX11_compared_45 dX11_compared_46 (by decide) (fun b_45 => ?_) (fun b_45 => ?_)
          · refine x_iconst X dX11_compared_53 ?_
            exact x_iret X hr hlk hW (⟨by rw [hc3]; first | rw [if_pos (by omega)] | rw [if_neg (by omega)], hgg⟩) dX11_compared_54
          · refine x_iconst X dX11_compared_49 ?_
            refine lv_goto (tgt := 54) X.1 X.2.1 dX11_compared_50 (by decide) ?_
            exact x_iret X hr hlk hW (⟨by rw [hc3]; first | rw [if_pos (by omega)] | rw [if_neg (by omega)], hgg⟩) dX11_compared_54
  exact loop_3 _ 10 g _ _ _ (Nat.lt_succ_self _) (by omega) (fun j a b => absurd a (by omega)) rfl hW (lv_sub hl [1, 2, 3, 0] rfl)

set_option maxHeartbeats 4000000 in
set_option maxRecDepth 100000 in
/-- isZero -/
theorem c_X11_isZero (l : Launch) (E : wE) (A : Nat → Nat) (n sz : Nat) (g : Nat → va_E) (i a : Nat) (q : Nat → Int) (N : Nat → Int) (hi : i + 16 < n) (hO : g i = mO A i q) (ha : a < 4000) (hN : MN E A g i N) : Met l yX11_isZero wsX11_isZero ({ frames := 1, cells := 0, slots := 0, locals := 60 } : Room) (va_Pc [.ref (A (i)), .int (iI ((a : Int)))] (wPre E A n sz g)) (va_Qi (fun r g' => r = iI (if N a = 0 then 1 else 0) ∧ g' = g) (wAt E A n) (wF A n sz)) 0 0 (wF A n sz) := by
  refine x_met (cc := cX11_isZero) (maxL := 3) (ret := (some .boolean)) [.ref (A (i)), .int (iI ((a : Int)))] (by decide) rfl (Nat.le_of_ble_eq_true rfl) ?_
  intro p e s m below meth c ls X hr hlk hnm hsz hW hl
  have hl : lv_has ls 3 [(0, .ref (A (i))), (1, .int (iI ((a : Int))))] := hl
  have lk_0 : ∀ w ∈ wsX110, w ∈ wsX11_isZero := by decide +kernel
  have lk_1 : Cond.fieldLink RX11 10 (TX11 0).1 (TX11 0).2.1 (TX11 0).2.2.1 ∈ wsX11_isZero := by decide +kernel
  have hO : g i = .inr (11, [.ref (A (i + 1)), .ref (A (i + 2)), .ref (A (i + 3)), .ref (A (i + 4)), .int (iI (q 0)), .ref (A (i + 5)), .ref (A (i + 6)), .ref (A (i + 7)), .ref (A (i + 8)), .int (iI (q 1)), .ref (A (i + 9)), .ref (A (i + 10)), .ref (A (i + 11)), .int (iI (q 2)), .ref (A (i + 12)), .ref (A (i + 13)), .int (iI (q 3)), .ref (A (i + 14)), .ref (A (i + 15)), .ref (A (i + 16)), .int (iI (q 4))]) := hO
  obtain ⟨nf, h1, hN⟩ := hN
  refine x_iconst X dX11_isZero_0 ?_
  refine lv_istore_n (lv' := [(2, .int (iI (0))), (0, .ref (A (i))), (1, .int (iI ((a : Int))))]) X.1 X.2.1 dX11_isZero_1 rfl hl (by decide) rfl (fun ls hl => ?_)
  have loop_2 : ∀ (fuel : Nat) (k : Nat) (gw : Nat → va_E) (H : Heap) (locs : List Loc) (ls : Array Slot), (10 - k) < fuel → (k ≤ 10) → (∀ j, j < k → lm (N a) j = 0) → (gw = g) → wH E (wF A n sz) A n s gw H locs → lv_has ls 3 [(0, .ref (A (i))), (1, .int (iI ((a : Int)))), (2, .int (iI ((k : Int))))] → W p l e ({ frames := 1, cells := 0, slots := 0, locals := 60 } : Room) s m [.ref (A (i)), .int (iI ((a : Int)))].toArray below meth c H locs 0 0 (MQ below (va_Qi (fun r g' => r = iI (if N a = 0 then 1 else 0) ∧ g' = g) (wAt E A n) (wF A n sz)) [.ref (A (i)), .int (iI ((a : Int)))].toArray s 0 0 (wF A n sz)) (F0 m 2 ls []) := by
    intro fuel
    induction fuel with
    | zero => intro k gw H locs ls hm; exact absurd hm (Nat.not_lt_zero _)
    | succ fuel ih_2 =>
      intro k gw H locs ls hm hk hs hgg hW hl
      have hO : gw i = .inr (11, [.ref (A (i + 1)), .ref (A (i + 2)), .ref (A (i + 3)), .ref (A (i + 4)), .int (iI (q 0)), .ref (A (i + 5)), .ref (A (i + 6)), .ref (A (i + 7)), .ref (A (i + 8)), .int (iI (q 1)), .ref (A (i + 9)), .ref (A (i + 10)), .ref (A (i + 11)), .int (iI (q 2)), .ref (A (i + 12)), .ref (A (i + 13)), .int (iI (q 3)), .ref (A (i + 14)), .ref (A (i + 15)), .ref (A (i + 16)), .int (iI (q 4))]) := by rw [hgg]; exact hO
      have h1 : gw (i + 1) = aJ E 40000 nf := by rw [hgg]; exact h1
      refine lv_iload_n X.1 X.2.1 dX11_isZero_2 rfl (lv_at hl 2 rfl) ?_
      refine x_bipush X (by decide) dX11_isZero_3 ?_
      refine x_icmp_ge (tgt := 32) X ⟨by omega, by omega⟩ ⟨by decide, by decide⟩ dX11_isZero_5 (by decide) (fun b_5 => ?_) (fun b_5 => ?_)
      · refine x_iconst X dX11_isZero_32 ?_
        exact x_zret X hr hlk (by decide) hW (⟨by rw [if_pos (lm_ext (fun j hj => by rw [hs j (by omega), lm_0]))], hgg⟩) dX11_isZero_33
      · have hA9 := lm_I64 (hN a ha) k (by omega)
        refine lv_aload_n X.1 X.2.1 dX11_isZero_8 rfl (lv_at hl 0 rfl) ?_
        refine x_get (C := RX11) (T := TX11) (N := 21) X hW (by omega) hO rfl lk_0 0 (by decide) lk_1 rfl dX11_isZero_9 ?_
        refine x_bipush X (by decide) dX11_isZero_12 ?_
        refine lv_iload_n X.1 X.2.1 dX11_isZero_14 rfl (lv_at hl 1 rfl) ?_
        refine x_imul X dX11_isZero_15 ?_
        refine lv_iload_n X.1 X.2.1 dX11_isZero_16 rfl (lv_at hl 2 rfl) ?_
        refine x_iadd X dX11_isZero_17 ?_
        refine x_lald X hW (by omega) h1 (v := lI (lm (N a) k)) (10 * a + k) (by omega) (by omega) (by decide) ((hN a ha).2.2 k (by omega)) dX11_isZero_18 ?_
        refine x_lconst X 0 (by decide) dX11_isZero_19 ?_
        refine x_lcmp_eq (tgt := 26) X hA9 I64_0 dX11_isZero_20 dX11_isZero_21 (by decide) (fun b_20 => ?_) (fun b_20 => ?_)
        · refine lv_iinc (v := iI (((k + 1 : Nat) : Int))) (lv' := [(2, .int (iI (((k + 1 : Nat) : Int)))), (0, .ref (A (i))), (1, .int (iI ((a : Int))))]) X.1 X.2.1 dX11_isZero_26 hl (k := 2) rfl (by rw [show (Int32.ofInt (1)) = iI (1) from rfl, iI_add]; rfl) (by decide) rfl (fun ls hl => ?_)
          refine lv_goto (tgt := 2) X.1 X.2.1 dX11_isZero_29 (by decide) ?_
          exact ih_2 (k + 1) gw _ _ _ (by omega) (by omega) (fun j hj => if ej : j = k then (by rw [ej]; exact b_20) else hs j (by omega)) hgg hW (lv_sub hl [1, 2, 0] rfl)
        · refine x_iconst X dX11_isZero_24 ?_
          exact x_zret X hr hlk (by decide) hW (⟨by rw [if_neg (fun h => b_20 (by rw [h, lm_0]))], hgg⟩) dX11_isZero_25
  exact loop_2 _ 0 g _ _ _ (Nat.lt_succ_self _) (by omega) (fun j a => absurd a (by omega)) rfl hW (lv_sub hl [1, 2, 0] rfl)

set_option maxHeartbeats 4000000 in
set_option maxRecDepth 100000 in
/-- isEven -/
theorem c_X11_isEven (l : Launch) (E : wE) (A : Nat → Nat) (n sz : Nat) (g : Nat → va_E) (i a : Nat) (q : Nat → Int) (N : Nat → Int) (hi : i + 16 < n) (hO : g i = mO A i q) (ha : a < 4000) (hN : MN E A g i N) : Met l yX11_isEven wsX11_isEven ({ frames := 1, cells := 0, slots := 0, locals := 60 } : Room) (va_Pc [.ref (A (i)), .int (iI ((a : Int)))] (wPre E A n sz g)) (va_Qi (fun r g' => r = iI (if N a % 2 = 0 then 1 else 0) ∧ g' = g) (wAt E A n) (wF A n sz)) 0 0 (wF A n sz) := by
  refine x_met (cc := cX11_isEven) (maxL := 2) (ret := (some .boolean)) [.ref (A (i)), .int (iI ((a : Int)))] (by decide) rfl (Nat.le_of_ble_eq_true rfl) ?_
  intro p e s m below meth c ls X hr hlk hnm hsz hW hl
  have hl : lv_has ls 2 [(0, .ref (A (i))), (1, .int (iI ((a : Int))))] := hl
  have lk_0 : ∀ w ∈ wsX110, w ∈ wsX11_isEven := by decide +kernel
  have lk_1 : Cond.fieldLink RX11 10 (TX11 0).1 (TX11 0).2.1 (TX11 0).2.2.1 ∈ wsX11_isEven := by decide +kernel
  have lk_2 : Cond.constantLong RX11 79 (2) ∈ wsX11_isEven := by decide +kernel
  have hO : g i = .inr (11, [.ref (A (i + 1)), .ref (A (i + 2)), .ref (A (i + 3)), .ref (A (i + 4)), .int (iI (q 0)), .ref (A (i + 5)), .ref (A (i + 6)), .ref (A (i + 7)), .ref (A (i + 8)), .int (iI (q 1)), .ref (A (i + 9)), .ref (A (i + 10)), .ref (A (i + 11)), .int (iI (q 2)), .ref (A (i + 12)), .ref (A (i + 13)), .int (iI (q 3)), .ref (A (i + 14)), .ref (A (i + 15)), .ref (A (i + 16)), .int (iI (q 4))]) := hO
  obtain ⟨nf, h1, hN⟩ := hN
  have hA9 := lm_I64 (hN a ha) 0 (by omega)
  have hA8 : 0 ≤ lm (N a) 0 ∧ lm (N a) 0 % 2 = N a % 2 := by
    unfold lm; rw [if_pos (by omega)]; show 0 ≤ N a / 1 % 1000000000 ∧ N a / 1 % 1000000000 % 2 = N a % 2; omega
  refine lv_aload_n X.1 X.2.1 dX11_isEven_0 rfl (lv_at hl 0 rfl) ?_
  refine x_get (C := RX11) (T := TX11) (N := 21) X hW (by omega) hO rfl lk_0 0 (by decide) lk_1 rfl dX11_isEven_1 ?_
  refine x_bipush X (by decide) dX11_isEven_4 ?_
  refine lv_iload_n X.1 X.2.1 dX11_isEven_6 rfl (lv_at hl 1 rfl) ?_
  refine x_imul X dX11_isEven_7 ?_
  refine x_lald X hW (by omega) h1 (v := lI (lm (N a) 0)) (10 * a + 0) (by omega) (by omega) (by decide) ((hN a ha).2.2 0 (by omega)) dX11_isEven_8 ?_
  refine x_ldc2 X (2) (by decide) lk_2 dX11_isEven_9 ?_
  refine x_lrem X hA9 ⟨by decide, by decide⟩ hA8.1 (by decide) dX11_isEven_12 ?_
  refine x_lconst X 0 (by decide) dX11_isEven_13 ?_
  refine x_lcmp_ne (tgt := 22) X ⟨by omega, by omega⟩ I64_0 dX11_isEven_14 dX11_isEven_15 (by decide) (fun b_14 => ?_) (fun b_14 => ?_)
  · refine x_iconst X dX11_isEven_22 ?_
    exact x_zret X hr hlk (by decide) hW (⟨by congr 1; repeat (first | rfl | omega | split), rfl⟩) dX11_isEven_23
  · refine x_iconst X dX11_isEven_18 ?_
    refine lv_goto (tgt := 23) X.1 X.2.1 dX11_isEven_19 (by decide) ?_
    exact x_zret X hr hlk (by decide) hW (⟨by congr 1; repeat (first | rfl | omega | split), rfl⟩) dX11_isEven_23
