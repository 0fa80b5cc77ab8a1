/-! ===== the class's Crowd: books by their cells ===== -/
def CrowdV (E : wE) (A : Nat → Nat) (g : Nat → va_E) (i cz : Nat) (bc : Nat → Nat) : Prop := g i = .inr (3, [.ref (A (i + 1)), .ref (A (i + 4)), .int (iI ((cz : Int)))]) ∧ cz ≤ 10 ∧ ∃ f : Nat → Option Nat, g (i + 4) = aR E 2 10 f ∧ ∀ k, k < cz → f k = some (A (bc k))
theorem CrowdV.frame {E : wE} {A : Nat → Nat} {g g' : Nat → va_E} {i cz : Nat} {bc : Nat → Nat} (h : CrowdV E A g i cz bc) (h0 : g' i = g i) (h4 : g' (i + 4) = g (i + 4)) : CrowdV E A g' i cz bc := by
  obtain ⟨a, b, f, c, d⟩ := h
  exact ⟨h0.trans a, b, f, h4.trans c, d⟩
/-- the books that a crowd draws from: where they lie, and their pairs -/
def BksV (E : wE) (A : Nat → Nat) (g : Nat → va_E) (n cz : Nat) (bc : Nat → Nat) (Lk : Nat → List (Nat × Nat)) : Prop := ∀ k, k < cz → bc k + 2 < n ∧ BookV E A g (bc k) (Lk k)
theorem BksV.frame {E : wE} {A : Nat → Nat} {g g' : Nat → va_E} {n cz : Nat} {bc : Nat → Nat} {Lk : Nat → List (Nat × Nat)} (h : BksV E A g n cz bc Lk) (hf : ∀ k, k < cz → g' (bc k) = g (bc k) ∧ g' (bc k + 1) = g (bc k + 1) ∧ g' (bc k + 2) = g (bc k + 2)) : BksV E A g' n cz bc Lk := fun k hk => ⟨(h k hk).1, (h k hk).2.frame (hf k hk).1 (hf k hk).2.1 (hf k hk).2.2⟩
def pr (f : Nat → Nat) : Nat → Nat
  | 0 => 1
  | k + 1 => pr f k * f k
theorem pr_le {f : Nat → Nat} {M : Nat} (k : Nat) (h : ∀ j, j < k → f j ≤ M) : pr f k ≤ M ^ k := by
  induction k with
  | zero => exact Nat.le_refl _
  | succ k ih => show pr f k * f k ≤ M ^ (k + 1); rw [Nat.pow_succ]; exact Nat.mul_le_mul (ih (fun j hj => h j (by omega))) (h k (by omega))
theorem pr_8000 {f : Nat → Nat} {k : Nat} (hk : k ≤ 10) (h : ∀ j, j < k → f j ≤ 8000) : pr f k < 10 ^ 54 :=
  Nat.lt_of_le_of_lt (Nat.le_trans (pr_le k h) (Nat.pow_le_pow_right (by decide) hk)) (by decide)
theorem pr_pos {f : Nat → Nat} (k : Nat) (h : ∀ j, j < k → 0 < f j) : 0 < pr f k := by
  induction k with
  | zero => exact Nat.one_pos
  | succ k ih => exact Nat.mul_pos (ih (fun j hj => h j (by omega))) (h k (by omega))
theorem BookV.tot {E : wE} {A : Nat → Nat} {g : Nat → va_E} {i : Nat} {L : List (Nat × Nat)} (h : BookV E A g i L) : bE L (fun _ => 1) ≤ 8000 := by
  obtain ⟨bz, wo, we, tot, a, b⟩ := h
  rw [← b.2.2.2.1]; exact b.2.2.2.2
theorem BookV.le {E : wE} {A : Nat → Nat} {g : Nat → va_E} {i : Nat} {L : List (Nat × Nat)} (h : BookV E A g i L) (b : Int) : bBelow L b ≤ 8000 := by
  obtain ⟨bz, wo, we, tot, a, hp⟩ := h
  have := bE_le_tot hp (f := fun x => if (x : Int) < b then 1 else 0) (M := 1) (fun k _ => by split <;> omega) bz (Nat.le_refl _)
  have e : sm (fun k => we k * (if ((wo k : Nat) : Int) < b then 1 else 0)) bz = bBelow L b := hp.2.2.1 (fun x => if (x : Int) < b then 1 else 0)
  omega
theorem BookV.gle {E : wE} {A : Nat → Nat} {g : Nat → va_E} {i : Nat} {L : List (Nat × Nat)} (h : BookV E A g i L) (b : Int) : bGath L b ≤ 8000000 := by
  obtain ⟨bz, wo, we, tot, a, hp⟩ := h
  have := bE_le_tot hp (f := fun x => if b ≤ (x : Int) then x else 0) (M := 1000) (fun k hk => by have := (hp.2.1 k hk).2; split <;> omega) bz (Nat.le_refl _)
  have e : sm (fun k => we k * (if b ≤ ((wo k : Nat) : Int) then wo k else 0)) bz = bGath L b := hp.2.2.1 (fun x => if b ≤ (x : Int) then x else 0)
  omega
/-- the least worth from 'low' on that some book has, or -1 -/
def LFC (cz : Nat) (Lk : Nat → List (Nat × Nat)) (low z : Int) : Prop := (z = -1 ∧ ∀ x : Nat, low ≤ (x : Int) → ∀ k, k < cz → bMass (Lk k) x = 0) ∨ ∃ x : Nat, z = (x : Int) ∧ x ≤ 1000 ∧ low ≤ (x : Int) ∧ (∃ k, k < cz ∧ 0 < bMass (Lk k) x) ∧ ∀ y : Nat, y < x → low ≤ (y : Int) → ∀ k, k < cz → bMass (Lk k) y = 0
theorem LFC_0 (Lk : Nat → List (Nat × Nat)) (low : Int) : LFC 0 Lk low (-1) := Or.inl ⟨rfl, fun _ _ k hk => absurd hk (Nat.not_lt_zero _)⟩
theorem LFC_keep {cz : Nat} {Lk : Nat → List (Nat × Nat)} {low z z2 : Int} (h : LFC cz Lk low z) (h2 : LF (Lk cz) low z2) (hc : z2 = -1 ∨ (z ≠ -1 ∧ z ≤ z2)) : LFC (cz + 1) Lk low z := by
  rcases h with ⟨e, a⟩ | ⟨x, e, a1, a2, ⟨k, hk, hm⟩, a3⟩
  · rcases h2 with ⟨e2, b⟩ | ⟨x2, e2, b1, b2, b3, b4⟩
    · exact Or.inl ⟨e, fun x hx k hk => by
        by_cases q : k = cz
        · rw [q]; exact b x hx
        · exact a x hx k (by omega)⟩
    · exact absurd e (by omega)
  · refine Or.inr ⟨x, e, a1, a2, ⟨k, by omega, hm⟩, fun y hy hl j hj => ?_⟩
    by_cases q : j = cz
    · rw [q]
      rcases h2 with ⟨e2, b⟩ | ⟨x2, e2, b1, b2, b3, b4⟩
      · exact b y hl
      · exact b4 y (by omega) hl
    · exact a3 y hy hl j (by omega)
theorem LFC_take {cz : Nat} {Lk : Nat → List (Nat × Nat)} {low z z2 : Int} (h : LFC cz Lk low z) (h2 : LF (Lk cz) low z2) (hn : z2 ≠ -1) (hc : z = -1 ∨ z2 < z) : LFC (cz + 1) Lk low z2 := by
  rcases h2 with ⟨e2, b⟩ | ⟨x2, e2, b1, b2, b3, b4⟩
  · exact absurd e2 hn
  · refine Or.inr ⟨x2, e2, b1, b2, ⟨cz, by omega, b3⟩, fun y hy hl j hj => ?_⟩
    by_cases q : j = cz
    · rw [q]; exact b4 y hy hl
    · rcases h with ⟨e, a⟩ | ⟨x, e, a1, a2, _, a3⟩
      · exact a y hl j (by omega)
      · exact a3 y (by omega) hl j (by omega)
theorem LF_rng {L : List (Nat × Nat)} {low z : Int} (h : LF L low z) : -1 ≤ z ∧ z ≤ 1000 := by
  rcases h with ⟨e, _⟩ | ⟨x, e, h1, _⟩ <;> omega
theorem LFC_rng {cz : Nat} {Lk : Nat → List (Nat × Nat)} {low z : Int} (h : LFC cz Lk low z) : -1 ≤ z ∧ z ≤ 1000 := by
  rcases h with ⟨e, _⟩ | ⟨x, e, h1, _⟩ <;> omega

set_option maxHeartbeats 4000000 in
set_option maxRecDepth 100000 in
/-- size -/
theorem c_X3_size (l : Launch) (E : wE) (A : Nat → Nat) (n sz : Nat) (g : Nat → va_E) (i cz : Nat) (bc : Nat → Nat) (hi : i + 4 < n) (hC : CrowdV E A g i cz bc) : Met l yX3_size wsX3_size ({ frames := 1, cells := 0, slots := 0, locals := 30 } : Room) (va_Pc [.ref (A (i))] (wPre E A n sz g)) (va_Qi (fun r g' => r = iI (cz : Int) ∧ g' = g) (wAt E A n) (wF A n sz)) 0 0 (wF A n sz) := by
  refine x_met (cc := cX3_size) (maxL := 1) (ret := (some .int)) [.ref (A (i))] (by decide) rfl (Nat.le_of_ble_eq_true rfl) ?_
  intro p e s m below meth c ls X hr hlk hnm hsz hW hl
  have hl : lv_has ls 1 [(0, .ref (A (i)))] := hl
  have lk_0 : ∀ w ∈ wsX30, w ∈ wsX3_size := by decide +kernel
  have lk_1 : Cond.fieldLink RX3 22 (TX3 2).1 (TX3 2).2.1 (TX3 2).2.2.1 ∈ wsX3_size := by decide +kernel
  obtain ⟨h0, hz10, f, h4, hf⟩ := hC
  refine lv_aload_n X.1 X.2.1 dX3_size_0 rfl (lv_at hl 0 rfl) ?_
  refine x_get (C := RX3) (T := TX3) (N := 3) X hW (by omega) h0 rfl lk_0 2 (by decide) lk_1 rfl dX3_size_1 ?_
  exact x_iret X hr hlk hW (⟨rfl, rfl⟩) dX3_size_4

set_option maxHeartbeats 4000000 in
set_option maxRecDepth 100000 in
/-- clear -/
theorem c_X3_clear (l : Launch) (E : wE) (A : Nat → Nat) (n sz : Nat) (g : Nat → va_E) (i cz : Nat) (bc : Nat → Nat) (hi : i + 4 < n) (hC : CrowdV E A g i cz bc) : Met l yX3_clear wsX3_clear ({ frames := 1, cells := 0, slots := 0, locals := 30 } : Room) (va_Pc [.ref (A (i))] (wPre E A n sz g)) (va_Qv (fun g' => CrowdV E A g' i 0 bc ∧ ∀ j, j ≠ i → g' j = g j) (wAt E A n) (wF A n sz)) 0 0 (wF A n sz) := by
  refine x_met (cc := cX3_clear) (maxL := 1) (ret := none) [.ref (A (i))] (by decide) rfl (Nat.le_of_ble_eq_true rfl) ?_
  intro p e s m below meth c ls X hr hlk hnm hsz hW hl
  have hl : lv_has ls 1 [(0, .ref (A (i)))] := hl
  have lk_0 : ∀ w ∈ wsX30, w ∈ wsX3_clear := by decide +kernel
  have lk_1 : Cond.fieldLink RX3 22 (TX3 2).1 (TX3 2).2.1 (TX3 2).2.2.1 ∈ wsX3_clear := by decide +kernel
  obtain ⟨h0, hz10, f, h4, hf⟩ := hC
  refine lv_aload_n X.1 X.2.1 dX3_clear_0 rfl (lv_at hl 0 rfl) ?_
  refine x_iconst X dX3_clear_1 ?_
  refine x_seti (((0 : Nat) : Int)) rfl ?_
  refine x_put (C := RX3) (T := TX3) (N := 3) X hW (by omega) h0 rfl lk_0 tyX3 tyX3_ok nmX3 2 (by decide) lk_1 rfl rfl rfl (Nat.le_of_ble_eq_true rfl) dX3_clear_2 (fun g_2 H locs hg_2 hW => ?_)
  have h4 : g_2 (i + 4) = aR E 2 10 f := by rw [hg_2, va_up_ne _ _ (by omega)]; exact h4
  have h0 : g_2 i = .inr (3, [.ref (A (i + 1)), .ref (A (i + 4)), .int (iI (((0 : Nat) : Int)))]) := by rw [hg_2]; exact va_up_self _ _ _
  exact x_vret X hr hlk hW (⟨⟨h0, by decide, f, h4, fun k hk => absurd hk (Nat.not_lt_zero _)⟩, fun j hj => by rw [hg_2, va_up_ne _ _ hj]⟩) dX3_clear_5

set_option maxHeartbeats 4000000 in
set_option maxRecDepth 100000 in
/-- join -/
theorem c_X3_join (l : Launch) (E : wE) (A : Nat → Nat) (n sz : Nat) (g : Nat → va_E) (i cz : Nat) (bc : Nat → Nat) (b0 : Nat) (fs : List Value) (hi : i + 4 < n) (hC : CrowdV E A g i cz bc) (hcz : cz < 10) (hb0 : b0 < n) (hB0 : g b0 = .inr (0, fs)) (hb1 : b0 < i ∨ i + 4 < b0) : Met l yX3_join wsX3_join ({ frames := 1, cells := 0, slots := 0, locals := 30 } : Room) (va_Pc [.ref (A (i)), .ref (A (b0))] (wPre E A n sz g)) (va_Qv (fun g' => CrowdV E A g' i (cz + 1) (va_up bc cz b0) ∧ ∀ j, j ≠ i → j ≠ i + 4 → g' j = g j) (wAt E A n) (wF A n sz)) 0 0 (wF A n sz) := by
  refine x_met (cc := cX3_join) (maxL := 2) (ret := none) [.ref (A (i)), .ref (A (b0))] (by decide) rfl (Nat.le_of_ble_eq_true rfl) ?_
  intro p e s m below meth c ls X hr hlk hnm hsz hW hl
  have hl : lv_has ls 2 [(0, .ref (A (i))), (1, .ref (A (b0)))] := hl
  have lk_0 : ∀ w ∈ wsX30, w ∈ wsX3_join := by decide +kernel
  have lk_1 : Cond.fieldLink RX3 22 (TX3 2).1 (TX3 2).2.1 (TX3 2).2.2.1 ∈ wsX3_join := by decide +kernel
  have lk_2 : Cond.fieldLink RX3 18 (TX3 1).1 (TX3 1).2.1 (TX3 1).2.2.1 ∈ wsX3_join := by decide +kernel
  obtain ⟨h0, hz10, f, h4, hf⟩ := hC
  refine lv_aload_n X.1 X.2.1 dX3_join_0 rfl (lv_at hl 0 rfl) ?_
  refine x_get (C := RX3) (T := TX3) (N := 3) X hW (by omega) h0 rfl lk_0 2 (by decide) lk_1 rfl dX3_join_1 ?_
  refine x_bipush X (by decide) dX3_join_4 ?_
  refine x_icmp_ge (tgt := 29) X ⟨by omega, by omega⟩ ⟨by decide, by decide⟩ dX3_join_6 (by decide) (fun b_6 => ?_) (fun b_6 => ?_)
  · exact absurd b_6 (by omega)
  · refine lv_aload_n X.1 X.2.1 dX3_join_9 rfl (lv_at hl 0 rfl) ?_
    refine x_get (C := RX3) (T := TX3) (N := 3) X hW (by omega) h0 rfl lk_0 1 (by decide) lk_2 rfl dX3_join_10 ?_
    refine lv_aload_n X.1 X.2.1 dX3_join_13 rfl (lv_at hl 0 rfl) ?_
    refine x_get (C := RX3) (T := TX3) (N := 3) X hW (by omega) h0 rfl lk_0 2 (by decide) lk_1 rfl dX3_join_14 ?_
    refine lv_aload_n X.1 X.2.1 dX3_join_17 rfl (lv_at hl 1 rfl) ?_
    refine x_aast (r := (RX0, TX0, 4)) X hW (by omega) h4 rfl (j := b0) (by omega) hB0 rfl cz (by omega) (by omega) (by decide) dX3_join_18 (fun g_18 H locs hg_18 hW => ?_)
    have h0 : g_18 i = .inr (3, [.ref (A (i + 1)), .ref (A (i + 4)), .int (iI ((cz : Int)))]) := by rw [hg_18, va_up_ne _ _ (by omega)]; exact h0
    have h4 : g_18 (i + 4) = aR E 2 10 (va_up f cz (some (A b0))) := by rw [hg_18]; exact va_up_self _ _ _
    refine lv_aload_n X.1 X.2.1 dX3_join_19 rfl (lv_at hl 0 rfl) ?_
    refine lv_dup X.1 X.2.1 dX3_join_20 rfl ?_
    refine x_get (C := RX3) (T := TX3) (N := 3) X hW (by omega) h0 rfl lk_0 2 (by decide) lk_1 rfl dX3_join_21 ?_
    refine x_iconst X dX3_join_24 ?_
    refine x_iadd X dX3_join_25 ?_
    refine x_seti (((cz + 1 : Nat) : Int)) (by omega) ?_
    refine x_put (C := RX3) (T := TX3) (N := 3) X hW (by omega) h0 rfl lk_0 tyX3 tyX3_ok nmX3 2 (by decide) lk_1 rfl rfl rfl (Nat.le_of_ble_eq_true rfl) dX3_join_26 (fun g_26 H locs hg_26 hW => ?_)
    have h4 : g_26 (i + 4) = aR E 2 10 (va_up f cz (some (A b0))) := by rw [hg_26, va_up_ne _ _ (by omega)]; exact h4
    have h0 : g_26 i = .inr (3, [.ref (A (i + 1)), .ref (A (i + 4)), .int (iI (((cz + 1 : Nat) : Int)))]) := by rw [hg_26]; exact va_up_self _ _ _
    exact x_vret X hr hlk hW (⟨⟨h0, by omega, _, h4, fun k hk => by
      by_cases e : k = cz
      · rw [e, va_up_self, va_up_self]
      · rw [va_up_ne _ _ e, va_up_ne _ _ e]; exact hf k (by omega)⟩, fun j hj hj4 => by rw [hg_26, va_up_ne _ _ hj, hg_18, va_up_ne _ _ hj4]⟩) dX3_join_29

set_option maxHeartbeats 4000000 in
set_option maxRecDepth 100000 in
/-- at -/
theorem c_X3_at (l : Launch) (E : wE) (A : Nat → Nat) (n sz : Nat) (g : Nat → va_E) (i cz : Nat) (bc : Nat → Nat) (k : Nat) (hi : i + 4 < n) (hC : CrowdV E A g i cz bc) (hk : k < cz) : Met l yX3_at wsX3_at ({ frames := 2, cells := 0, slots := 0, locals := 60 } : Room) (va_Pc [.ref (A (i)), .int (iI ((k : Int)))] (wPre E A n sz g)) (va_Qr (fun u => u.1 = bc k ∧ u.2 = g) (wAtR E A n) (wF A n sz)) 0 0 (wF A n sz) := by
  refine x_met (cc := cX3_at) (maxL := 2) (ret := (some (.object "ChooseOnce$Book"))) [.ref (A (i)), .int (iI ((k : Int)))] (by decide) rfl (Nat.le_of_ble_eq_true rfl) ?_
  intro p e s m below meth c ls X hr hlk hnm hsz hW hl
  have hl : lv_has ls 2 [(0, .ref (A (i))), (1, .int (iI ((k : Int))))] := hl
  have lk_0 : ∀ w ∈ wsX30, w ∈ wsX3_at := by decide +kernel
  have lk_1 : Cond.fieldLink RX3 22 (TX3 2).1 (TX3 2).2.1 (TX3 2).2.2.1 ∈ wsX3_at := by decide +kernel
  have lk_2 : Cond.initialized yX10_isWithin.cls ∈ wsX3_at := by decide +kernel
  have lk_3 : Cond.static yX10_isWithin ∈ wsX3_at := by decide +kernel
  have lk_4 : Cond.fieldLink RX3 18 (TX3 1).1 (TX3 1).2.1 (TX3 1).2.2.1 ∈ wsX3_at := by decide +kernel
  obtain ⟨h0, hz10, f, h4, hf⟩ := hC
  refine lv_iload_n X.1 X.2.1 dX3_at_0 rfl (lv_at hl 1 rfl) ?_
  refine x_i2l X ⟨by omega, by omega⟩ dX3_at_1 ?_
  refine x_lconst X 0 (by decide) dX3_at_2 ?_
  refine lv_aload_n X.1 X.2.1 dX3_at_3 rfl (lv_at hl 0 rfl) ?_
  refine x_get (C := RX3) (T := TX3) (N := 3) X hW (by omega) h0 rfl lk_0 2 (by decide) lk_1 rfl dX3_at_4 ?_
  refine x_iconst X dX3_at_7 ?_
  refine x_isub X dX3_at_8 ?_
  refine x_i2l X ⟨by omega, by omega⟩ dX3_at_9 ?_
  refine x_ci (x_runSN (k := 3) (As := [.long (lI ((k : Int))), .long (lI (0)), .long (lI (((cz : Int)) - 1))]) (rest := []) X hW (c_X10_isWithin l E A n _ g (k : Int) 0 ((cz : Int) - 1) ⟨by omega, by omega⟩ I64_0 ⟨by omega, by omega⟩) gX3_at_X10_isWithin_n26 rfl rfl rfl (by decide +kernel) lk_2 lk_3 (by decide +kernel) ⟨by decide, by decide⟩ rfl hl.1 rfl (Nat.le_of_ble_eq_true rfl) dX3_at_10 ⟨Nat.zero_le _, Nat.zero_le _⟩) hW (fun r_10 g_10 H locs hp_10 hW => ?_)
  obtain ⟨hr_10, he_10⟩ := hp_10
  rw [he_10] at hW
  subst hr_10
  refine x_if_eq (tgt := 25) X ⟨by split <;> decide, by split <;> decide⟩ dX3_at_13 (by decide) (fun b_13 => ?_) (fun b_13 => ?_)
  · exact absurd b_13 (by rw [if_pos ⟨by omega, by omega⟩]; decide)
  · refine lv_aload_n X.1 X.2.1 dX3_at_16 rfl (lv_at hl 0 rfl) ?_
    refine x_get (C := RX3) (T := TX3) (N := 3) X hW (by omega) h0 rfl lk_0 1 (by decide) lk_4 rfl dX3_at_17 ?_
    refine lv_iload_n X.1 X.2.1 dX3_at_20 rfl (lv_at hl 1 rfl) ?_
    refine x_aald X hW (by omega) h4 rfl (j := bc k) k (by omega) (by omega) (by decide) (hf k hk) dX3_at_21 ?_
    refine lv_goto (tgt := 29) X.1 X.2.1 dX3_at_22 (by decide) ?_
    exact x_aret (j := bc k) X hr hlk hW (⟨rfl, rfl⟩) dX3_at_29

set_option maxHeartbeats 4000000 in
set_option maxRecDepth 100000 in
/-- leastFrom -/
theorem c_X3_leastFrom (l : Launch) (E : wE) (A : Nat → Nat) (n sz : Nat) (g : Nat → va_E) (i cz : Nat) (bc : Nat → Nat) (Lk : Nat → List (Nat × Nat)) (b : Int) (hi : i + 4 < n) (hC : CrowdV E A g i cz bc) (hB : BksV E A g n cz bc Lk) (hb32 : I32 b) : Met l yX3_leastFrom wsX3_leastFrom ({ frames := 3, cells := 0, slots := 0, locals := 100 } : Room) (va_Pc [.ref (A (i)), .int (iI (b))] (wPre E A n sz g)) (va_Qi (fun r g' => (∃ z : Int, r = iI z ∧ LFC cz Lk b z) ∧ g' = g) (wAt E A n) (wF A n sz)) 0 0 (wF A n sz) := by
  refine x_met (cc := cX3_leastFrom) (maxL := 5) (ret := (some .int)) [.ref (A (i)), .int (iI (b))] (by decide) rfl (Nat.le_of_ble_eq_true rfl) ?_
  intro p e s m below meth c ls X hr hlk hnm hsz hW hl
  have hl : lv_has ls 5 [(0, .ref (A (i))), (1, .int (iI (b)))] := hl
  have lk_0 : ∀ w ∈ wsX30, w ∈ wsX3_leastFrom := by decide +kernel
  have lk_1 : Cond.fieldLink RX3 22 (TX3 2).1 (TX3 2).2.1 (TX3 2).2.2.1 ∈ wsX3_leastFrom := by decide +kernel
  have hC2 := hC
  obtain ⟨h0, hz10, f, h4, hf⟩ := hC2
  refine x_iconst X dX3_leastFrom_0 ?_
  refine lv_istore_n (lv' := [(2, .int (iI ((-1)))), (0, .ref (A (i))), (1, .int (iI (b)))]) X.1 X.2.1 dX3_leastFrom_1 rfl hl (by decide) rfl (fun ls hl => ?_)
  refine x_iconst X dX3_leastFrom_2 ?_
  refine lv_istore_n (lv' := [(3, .int (iI (0))), (2, .int (iI ((-1)))), (0, .ref (A (i))), (1, .int (iI (b)))]) X.1 X.2.1 dX3_leastFrom_3 rfl hl (by decide) rfl (fun ls hl => ?_)
  have loop_4 : ∀ (fuel : Nat) (k : Nat) (zz : Int) (gw : Nat → va_E) (H : Heap) (locs : List Loc) (ls : Array Slot), (cz - k) < fuel → (k ≤ cz) → (LFC k Lk b zz) → (gw = g) → wH E (wF A n sz) A n s gw H locs → lv_has ls 5 [(0, .ref (A (i))), (1, .int (iI (b))), (2, .int (iI (zz))), (3, .int (iI ((k : Int))))] → W p l e ({ frames := 3, cells := 0, slots := 0, locals := 100 } : Room) s m [.ref (A (i)), .int (iI (b))].toArray below meth c H locs 0 0 (MQ below (va_Qi (fun r g' => (∃ z : Int, r = iI z ∧ LFC cz Lk b z) ∧ g' = g) (wAt E A n) (wF A n sz)) [.ref (A (i)), .int (iI (b))].toArray s 0 0 (wF A n sz)) (F0 m 4 ls []) := by
    intro fuel
    induction fuel with
    | zero => intro k zz gw H locs ls hm; exact absurd hm (Nat.not_lt_zero _)
    | succ fuel ih_4 =>
      intro k zz gw H locs ls hm hk hz hgg hW hl
      have hC : CrowdV E A gw i cz bc := by rw [hgg]; exact hC
      have hB : BksV E A gw n cz bc Lk := by rw [hgg]; exact hB
      have hC2 := hC
      obtain ⟨h0, hz10, f, h4, hf⟩ := hC2
      have hzr := LFC_rng hz
      refine lv_iload_n X.1 X.2.1 dX3_leastFrom_4 rfl (lv_at hl 3 rfl) ?_
      refine lv_aload_n X.1 X.2.1 dX3_leastFrom_5 rfl (lv_at hl 0 rfl) ?_
      refine x_get (C := RX3) (T := TX3) (N := 3) X hW (by omega) h0 rfl lk_0 2 (by decide) lk_1 rfl dX3_leastFrom_6 ?_
      refine x_icmp_ge (tgt := 49) X ⟨by omega, by omega⟩ ⟨by omega, by omega⟩ dX3_leastFrom_9 (by decide) (fun b_9 => ?_) (fun b_9 => ?_)
      · refine lv_iload_n X.1 X.2.1 dX3_leastFrom_49 rfl (lv_at hl 2 rfl) ?_
        exact x_iret X hr hlk hW (⟨⟨zz, rfl, by rw [show cz = k from by omega]; exact hz⟩, hgg⟩) dX3_leastFrom_50
      · have hk9 : k < cz := by omega
        refine lv_aload_n X.1 X.2.1 dX3_leastFrom_12 rfl (lv_at hl 0 rfl) ?_
        refine lv_iload_n X.1 X.2.1 dX3_leastFrom_13 rfl (lv_at hl 3 rfl) ?_
        refine x_cr (x_runV (k := 1) (As := [.int (iI ((k : Int)))]) (rest := []) X hW (c_X3_at l E A n _ gw i cz bc k hi hC hk9) (by omega) h0 rfl gX3_leastFrom_X3_at rfl rfl rfl (by decide +kernel) ⟨by decide, by decide⟩ rfl hl.1 rfl (Nat.le_of_ble_eq_true rfl) dX3_leastFrom_14 ⟨Nat.zero_le _, Nat.zero_le _⟩) hW (fun j_14 g_14 H locs hp_14 hW => ?_)
        have hj_14 : j_14 = bc k := hp_14.1
        have he_14 : g_14 = gw := hp_14.2
        rw [he_14] at hW
        subst hj_14
        obtain ⟨hbn_14, hbv_14⟩ := hB k hk9
        have hbx_14 := hbv_14
        obtain ⟨bz_14, wo_14, we_14, tot_14, hbc_14, _⟩ := hbx_14
        have hbo_14 := hbc_14.1
        refine lv_iload_n X.1 X.2.1 dX3_leastFrom_17 rfl (lv_at hl 1 rfl) ?_
        refine x_ci (x_runV (k := 1) (As := [.int (iI (b))]) (rest := []) X hW (c_X0_leastFrom l E A n _ gw (bc k) (Lk k) b hbn_14 hbv_14 hb32) (by omega) hbo_14 rfl gX3_leastFrom_X0_leastFrom rfl rfl rfl (by decide +kernel) ⟨by decide, by decide⟩ rfl hl.1 rfl (Nat.le_of_ble_eq_true rfl) dX3_leastFrom_18 ⟨Nat.zero_le _, Nat.zero_le _⟩) hW (fun r_18 g_18 H locs hp_18 hW => ?_)
        obtain ⟨⟨z_18, hr_18, hlf⟩, he_18⟩ := hp_18
        rw [he_18] at hW
        subst hr_18
        have hlr := LF_rng hlf
        refine lv_istore (lv' := [(4, .int (iI (z_18))), (0, .ref (A (i))), (1, .int (iI (b))), (2, .int (iI (zz))), (3, .int (iI ((k : Int))))]) X.1 X.2.1 dX3_leastFrom_21 hl (by decide) rfl (fun ls hl => ?_)
        refine lv_iload X.1 X.2.1 dX3_leastFrom_23 (lv_at hl 0 rfl) ?_
        refine x_iconst X dX3_leastFrom_25 ?_
        refine x_icmp_eq (tgt := 43) X ⟨by omega, by omega⟩ ⟨by decide, by decide⟩ dX3_leastFrom_26 (by decide) (fun b_26 => ?_) (fun b_26 => ?_)
        · refine lv_iinc (v := iI (((k + 1 : Nat) : Int))) (lv' := [(3, .int (iI (((k + 1 : Nat) : Int)))), (4, .int (iI (z_18))), (0, .ref (A (i))), (1, .int (iI (b))), (2, .int (iI (zz)))]) X.1 X.2.1 dX3_leastFrom_43 hl (k := 4) rfl (by rw [show (Int32.ofInt (1)) = iI (1) from rfl, iI_add]; rfl) (by decide) rfl (fun ls hl => ?_)
          refine lv_goto (tgt := 4) X.1 X.2.1 dX3_leastFrom_46 (by decide) ?_
          exact ih_4 (k + 1) zz gw _ _ _ (by omega) (by omega) (LFC_keep hz hlf (by omega)) hgg hW (lv_sub hl [2, 3, 4, 0] rfl)
        · refine lv_iload_n X.1 X.2.1 dX3_leastFrom_29 rfl (lv_at hl 3 rfl) ?_
          refine x_iconst X dX3_leastFrom_30 ?_
          refine x_icmp_eq (tgt := 40) X ⟨by omega, by omega⟩ ⟨by decide, by decide⟩ dX3_leastFrom_31 (by decide) (fun b_31 => ?_) (fun b_31 => ?_)
          · refine lv_iload X.1 X.2.1 dX3_leastFrom_40 (lv_at hl 0 rfl) ?_
            refine lv_istore_n (lv' := [(2, .int (iI (z_18))), (4, .int (iI (z_18))), (0, .ref (A (i))), (1, .int (iI (b))), (3, .int (iI ((k : Int))))]) X.1 X.2.1 dX3_leastFrom_42 rfl hl (by decide) rfl (fun ls hl => ?_)
            refine lv_iinc (v := iI (((k + 1 : Nat) : Int))) (lv' := [(3, .int (iI (((k + 1 : Nat) : Int)))), (2, .int (iI (z_18))), (4, .int (iI (z_18))), (0, .ref (A (i))), (1, .int (iI (b)))]) X.1 X.2.1 dX3_leastFrom_43 hl (k := 4) rfl (by rw [show (Int32.ofInt (1)) = iI (1) from rfl, iI_add]; rfl) (by decide) rfl (fun ls hl => ?_)
            refine lv_goto (tgt := 4) X.1 X.2.1 dX3_leastFrom_46 (by decide) ?_
            exact ih_4 (k + 1) z_18 gw _ _ _ (by omega) (by omega) (LFC_take hz hlf (by omega) (by omega)) hgg hW (lv_sub hl [3, 4, 1, 0] rfl)
          · refine lv_iload X.1 X.2.1 dX3_leastFrom_34 (lv_at hl 0 rfl) ?_
            refine lv_iload_n X.1 X.2.1 dX3_leastFrom_36 rfl (lv_at hl 3 rfl) ?_
            refine x_icmp_ge (tgt := 43) X ⟨by omega, by omega⟩ ⟨by omega, by omega⟩ dX3_leastFrom_37 (by decide) (fun b_37 => ?_) (fun b_37 => ?_)
            · refine lv_iinc (v := iI (((k + 1 : Nat) : Int))) (lv' := [(3, .int (iI (((k + 1 : Nat) : Int)))), (4, .int (iI (z_18))), (0, .ref (A (i))), (1, .int (iI (b))), (2, .int (iI (zz)))]) X.1 X.2.1 dX3_leastFrom_43 hl (k := 4) rfl (by rw [show (Int32.ofInt (1)) = iI (1) from rfl, iI_add]; rfl) (by decide) rfl (fun ls hl => ?_)
              refine lv_goto (tgt := 4) X.1 X.2.1 dX3_leastFrom_46 (by decide) ?_
              exact ih_4 (k + 1) zz gw _ _ _ (by omega) (by omega) (LFC_keep hz hlf (by omega)) hgg hW (lv_sub hl [2, 3, 4, 0] rfl)
            · refine lv_iload X.1 X.2.1 dX3_leastFrom_40 (lv_at hl 0 rfl) ?_
              refine lv_istore_n (lv' := [(2, .int (iI (z_18))), (4, .int (iI (z_18))), (0, .ref (A (i))), (1, .int (iI (b))), (3, .int (iI ((k : Int))))]) X.1 X.2.1 dX3_leastFrom_42 rfl hl (by decide) rfl (fun ls hl => ?_)
              refine lv_iinc (v := iI (((k + 1 : Nat) : Int))) (lv' := [(3, .int (iI (((k + 1 : Nat) : Int)))), (2, .int (iI (z_18))), (4, .int (iI (z_18))), (0, .ref (A (i))), (1, .int (iI (b)))]) X.1 X.2.1 dX3_leastFrom_43 hl (k := 4) rfl (by rw [show (Int32.ofInt (1)) = iI (1) from rfl, iI_add]; rfl) (by decide) rfl (fun ls hl => ?_)
              refine lv_goto (tgt := 4) X.1 X.2.1 dX3_leastFrom_46 (by decide) ?_
              exact ih_4 (k + 1) z_18 gw _ _ _ (by omega) (by omega) (LFC_take hz hlf (by omega) (by omega)) hgg hW (lv_sub hl [3, 4, 1, 0] rfl)
  exact loop_4 _ 0 (-1) g _ _ _ (Nat.lt_succ_self _) (Nat.zero_le _) (LFC_0 Lk b) rfl hW (lv_sub hl [2, 3, 1, 0] rfl)

set_option maxHeartbeats 4000000 in
set_option maxRecDepth 100000 in
/-- waysUpTo -/
theorem c_X3_waysUpTo (l : Launch) (E : wE) (A : Nat → Nat) (n sz : Nat) (g : Nat → va_E) (i cz : Nat) (bc : Nat → Nat) (Lk : Nat → List (Nat × Nat)) (w : Int) (nc : Nat) (hi : i + 4 < n) (hC : CrowdV E A g i cz bc) (hB : BksV E A g n cz bc Lk) (hw1 : -1 ≤ w) (hw2 : w ≤ 2000) (hnc : nc + 1 < n) (hX : NatX E A g nc) (hdc : nc + 1 < i ∨ i + 4 < nc) (hdb : ∀ k, k < cz → nc + 1 < bc k ∨ bc k + 2 < nc) : Met l yX3_waysUpTo wsX3_waysUpTo ({ frames := 3, cells := 0, slots := 0, locals := 100 } : Room) (va_Pc [.ref (A (i)), .int (iI (w)), .ref (A (nc))] (wPre E A n sz g)) (va_Qv (fun g' => NatV E A g' nc (pr (fun k => bBelow (Lk k) (w + 1)) cz) ∧ ∀ j, j ≠ nc + 1 → g' j = g j) (wAt E A n) (wF A n sz)) 0 0 (wF A n sz) := by
  refine x_met (cc := cX3_waysUpTo) (maxL := 4) (ret := none) [.ref (A (i)), .int (iI (w)), .ref (A (nc))] (by decide) rfl (Nat.le_of_ble_eq_true rfl) ?_
  intro p e s m below meth c ls X hr hlk hnm hsz hW hl
  have hl : lv_has ls 4 [(0, .ref (A (i))), (1, .int (iI (w))), (2, .ref (A (nc)))] := hl
  have lk_0 : ∀ w ∈ wsX30, w ∈ wsX3_waysUpTo := by decide +kernel
  have lk_1 : Cond.fieldLink RX3 22 (TX3 2).1 (TX3 2).2.1 (TX3 2).2.2.1 ∈ wsX3_waysUpTo := by decide +kernel
  have hCg := hC
  have hBg := hB
  have n_nc := hX
  obtain ⟨h0, hz10, f, h4, hf⟩ := hC
  have hfr : ∀ j, j ≠ nc + 1 → g j = g j := fun _ _ => rfl
  refine lv_aload_n X.1 X.2.1 dX3_waysUpTo_0 rfl (lv_at hl 2 rfl) ?_
  refine x_lconst X 1 (by decide) dX3_waysUpTo_1 ?_
  refine x_cv (x_runV (k := 1) (As := [.long (lI (1))]) (rest := []) X hW (c_X5_put l E A n _ g nc 1 hnc n_nc (by decide)) (by omega) n_nc.1 rfl gX3_waysUpTo_X5_put rfl rfl rfl (by decide +kernel) ⟨by decide, by decide⟩ rfl hl.1 rfl (Nat.le_of_ble_eq_true rfl) dX3_waysUpTo_2 ⟨Nat.zero_le _, Nat.zero_le _⟩) hW (fun g_2 H locs hp_2 hW => ?_)
  obtain ⟨nv_2, hf_2⟩ := hp_2
  have h0 : g_2 i = .inr (3, [.ref (A (i + 1)), .ref (A (i + 4)), .int (iI ((cz : Int)))]) := by rw [hf_2 _ (by omega)]; exact h0
  have h4 : g_2 (i + 4) = aR E 2 10 f := by rw [hf_2 _ (by omega)]; exact h4
  have n_nc : NatV E A g_2 nc 1 := nv_2
  have hfr : ∀ j, j ≠ nc + 1 → g_2 j = g j := fun j hj => (hf_2 j (by omega)).trans (hfr j hj)
  refine x_iconst X dX3_waysUpTo_5 ?_
  refine x_seti (((0 : Nat) : Int)) rfl ?_
  refine lv_istore_n (lv' := [(3, .int (iI (((0 : Nat) : Int)))), (0, .ref (A (i))), (1, .int (iI (w))), (2, .ref (A (nc)))]) X.1 X.2.1 dX3_waysUpTo_6 rfl hl (by decide) rfl (fun ls hl => ?_)
  have loop_7 : ∀ (fuel : Nat) (k : Nat) (gw : Nat → va_E) (H : Heap) (locs : List Loc) (ls : Array Slot), (cz - k) < fuel → (k ≤ cz) → (NatV E A gw nc (pr (fun k => bBelow (Lk k) (w + 1)) k)) → (∀ j, j ≠ nc + 1 → gw j = g j) → wH E (wF A n sz) A n s gw H locs → lv_has ls 4 [(0, .ref (A (i))), (1, .int (iI (w))), (2, .ref (A (nc))), (3, .int (iI ((k : Int))))] → W p l e ({ frames := 3, cells := 0, slots := 0, locals := 100 } : Room) s m [.ref (A (i)), .int (iI (w)), .ref (A (nc))].toArray below meth c H locs 0 0 (MQ below (va_Qv (fun g' => NatV E A g' nc (pr (fun k => bBelow (Lk k) (w + 1)) cz) ∧ ∀ j, j ≠ nc + 1 → g' j = g j) (wAt E A n) (wF A n sz)) [.ref (A (i)), .int (iI (w)), .ref (A (nc))].toArray s 0 0 (wF A n sz)) (F0 m 7 ls []) := by
    intro fuel
    induction fuel with
    | zero => intro k gw H locs ls hm; exact absurd hm (Nat.not_lt_zero _)
    | succ fuel ih_7 =>
      intro k gw H locs ls hm hk n_nc hfr hW hl
      have hC : CrowdV E A gw i cz bc := hCg.frame (hfr _ (by omega)) (hfr _ (by omega))
      have hB : BksV E A gw n cz bc Lk := hBg.frame (fun k hk => by have := hdb k hk; exact ⟨hfr _ (by omega), hfr _ (by omega), hfr _ (by omega)⟩)
      have hC2 := hC
      obtain ⟨h0, hz10, f, h4, hf⟩ := hC2
      refine lv_iload_n X.1 X.2.1 dX3_waysUpTo_7 rfl (lv_at hl 3 rfl) ?_
      refine lv_aload_n X.1 X.2.1 dX3_waysUpTo_8 rfl (lv_at hl 0 rfl) ?_
      refine x_get (C := RX3) (T := TX3) (N := 3) X hW (by omega) h0 rfl lk_0 2 (by decide) lk_1 rfl dX3_waysUpTo_9 ?_
      refine x_icmp_ge (tgt := 37) X ⟨by omega, by omega⟩ ⟨by omega, by omega⟩ dX3_waysUpTo_12 (by decide) (fun b_12 => ?_) (fun b_12 => ?_)
      · exact x_vret X hr hlk hW (⟨by rw [show cz = k from by omega]; exact n_nc, hfr⟩) dX3_waysUpTo_37
      · have hk9 : k < cz := by omega
        have hb9 := (hB k hk9).2.le (w + 1)
        have hdk := hdb k hk9
        have hpk : pr (fun k => bBelow (Lk k) (w + 1)) k * bBelow (Lk k) (w + 1) < 10 ^ 54 := pr_8000 (f := (fun k => bBelow (Lk k) (w + 1))) (k := k + 1) (by omega) (fun j hj => (hB j (by omega)).2.le (w + 1))
        refine lv_aload_n X.1 X.2.1 dX3_waysUpTo_15 rfl (lv_at hl 2 rfl) ?_
        refine lv_aload_n X.1 X.2.1 dX3_waysUpTo_16 rfl (lv_at hl 0 rfl) ?_
        refine lv_iload_n X.1 X.2.1 dX3_waysUpTo_17 rfl (lv_at hl 3 rfl) ?_
        refine x_cr (x_runV (k := 1) (As := [.int (iI ((k : Int)))]) (rest := [.ref (A (nc))]) X hW (c_X3_at l E A n _ gw i cz bc k hi hC hk9) (by omega) h0 rfl gX3_waysUpTo_X3_at rfl rfl rfl (by decide +kernel) ⟨by decide, by decide⟩ rfl hl.1 rfl (Nat.le_of_ble_eq_true rfl) dX3_waysUpTo_18 ⟨Nat.zero_le _, Nat.zero_le _⟩) hW (fun j_18 g_18 H locs hp_18 hW => ?_)
        have hj_18 : j_18 = bc k := hp_18.1
        have he_18 : g_18 = gw := hp_18.2
        rw [he_18] at hW
        subst hj_18
        obtain ⟨hbn_18, hbv_18⟩ := hB k hk9
        have hbx_18 := hbv_18
        obtain ⟨bz_18, wo_18, we_18, tot_18, hbc_18, _⟩ := hbx_18
        have hbo_18 := hbc_18.1
        refine lv_iload_n X.1 X.2.1 dX3_waysUpTo_21 rfl (lv_at hl 1 rfl) ?_
        refine x_iconst X dX3_waysUpTo_22 ?_
        refine x_iadd X dX3_waysUpTo_23 ?_
        refine x_ci (x_runV (k := 1) (As := [.int (iI (w + 1))]) (rest := [.ref (A (nc))]) X hW (c_X0_below l E A n _ gw (bc k) (Lk k) (w + 1) hbn_18 hbv_18 ⟨by omega, by omega⟩) (by omega) hbo_18 rfl gX3_waysUpTo_X0_below rfl rfl rfl (by decide +kernel) ⟨by decide, by decide⟩ rfl hl.1 rfl (Nat.le_of_ble_eq_true rfl) dX3_waysUpTo_24 ⟨Nat.zero_le _, Nat.zero_le _⟩) hW (fun r_24 g_24 H locs hp_24 hW => ?_)
        obtain ⟨hr_24, he_24⟩ := hp_24
        rw [he_24] at hW
        subst hr_24
        refine x_i2l X ⟨by omega, by omega⟩ dX3_waysUpTo_27 ?_
        refine x_cv (x_runV (k := 1) (As := [.long (lI (((bBelow (Lk k) (w + 1) : Nat) : Int)))]) (rest := []) X hW (c_X5_times l E A n _ gw nc (pr (fun k => bBelow (Lk k) (w + 1)) k) (bBelow (Lk k) (w + 1)) hnc n_nc (by omega) hpk) (by omega) n_nc.2.1 rfl gX3_waysUpTo_X5_times rfl rfl rfl (by decide +kernel) ⟨by decide, by decide⟩ rfl hl.1 rfl (Nat.le_of_ble_eq_true rfl) dX3_waysUpTo_28 ⟨Nat.zero_le _, Nat.zero_le _⟩) hW (fun g_28 H locs hp_28 hW => ?_)
        obtain ⟨nv_28, hf_28⟩ := hp_28
        have h0 : g_28 i = .inr (3, [.ref (A (i + 1)), .ref (A (i + 4)), .int (iI ((cz : Int)))]) := by rw [hf_28 _ (by omega)]; exact h0
        have h4 : g_28 (i + 4) = aR E 2 10 f := by rw [hf_28 _ (by omega)]; exact h4
        have hbo_18 : g_28 (bc k) = .inr (0, [.ref (A (bc k + 1)), .ref (A (bc k + 2)), .int (iI ((bz_18 : Int))), .int (iI ((tot_18 : Int)))]) := by rw [hf_28 _ (by omega)]; exact hbo_18
        have n_nc : NatV E A g_28 nc (pr (fun k => bBelow (Lk k) (w + 1)) k * bBelow (Lk k) (w + 1)) := nv_28
        have hfr : ∀ j, j ≠ nc + 1 → g_28 j = g j := fun j hj => (hf_28 j (by omega)).trans (hfr j hj)
        refine lv_iinc (v := iI (((k + 1 : Nat) : Int))) (lv' := [(3, .int (iI (((k + 1 : Nat) : Int)))), (0, .ref (A (i))), (1, .int (iI (w))), (2, .ref (A (nc)))]) X.1 X.2.1 dX3_waysUpTo_31 hl (k := 3) rfl (by rw [show (Int32.ofInt (1)) = iI (1) from rfl, iI_add]; rfl) (by decide) rfl (fun ls hl => ?_)
        refine lv_goto (tgt := 7) X.1 X.2.1 dX3_waysUpTo_34 (by decide) ?_
        exact ih_7 (k + 1) g_28 _ _ _ (by omega) (by omega) n_nc hfr hW (lv_sub hl [1, 2, 3, 0] rfl)
  exact loop_7 _ 0 g_2 _ _ _ (Nat.lt_succ_self _) (Nat.zero_le _) n_nc hfr hW (lv_sub hl [1, 2, 3, 0] rfl)

set_option maxHeartbeats 4000000 in
set_option maxRecDepth 100000 in
/-- divide -/
theorem c_X3_divide (l : Launch) (E : wE) (A : Nat → Nat) (n sz : Nat) (g : Nat → va_E) (i cz : Nat) (bc : Nat → Nat) (Lk : Nat → List (Nat × Nat)) (nc rc v : Nat) (hi : i + 4 < n) (hC : CrowdV E A g i cz bc) (hB : BksV E A g n cz bc Lk) (htp : ∀ k, k < cz → 0 < bE (Lk k) (fun _ => 1)) (hnc : nc + 1 < n) (hrc : rc + 8 < n) (hNv : NatV E A g nc v) (hRX : ResX E A g rc) (hdn : nc + 1 < rc ∨ rc + 8 < nc) (hdc : rc + 8 < i ∨ i + 4 < rc) (hdb : ∀ k, k < cz → rc + 8 < bc k ∨ bc k + 2 < rc) : Met l yX3_divide wsX3_divide ({ frames := 5, cells := 0, slots := 0, locals := 240 } : Room) (va_Pc [.ref (A (i)), .ref (A (nc)), .ref (A (rc))] (wPre E A n sz g)) (va_Qv (fun g' => ResV E A g' rc (rdT (v : Int) (pr (fun k => bE (Lk k) (fun _ => 1)) cz)) (rdB (v : Int) (pr (fun k => bE (Lk k) (fun _ => 1)) cz)) ∧ ∀ j, (j < rc ∨ rc + 8 < j) → g' j = g j) (wAt E A n) (wF A n sz)) 0 0 (wF A n sz) := by
  refine x_met (cc := cX3_divide) (maxL := 4) (ret := none) [.ref (A (i)), .ref (A (nc)), .ref (A (rc))] (by decide) rfl (Nat.le_of_ble_eq_true rfl) ?_
  intro p e s m below meth c ls X hr hlk hnm hsz hW hl
  have hl : lv_has ls 4 [(0, .ref (A (i))), (1, .ref (A (nc))), (2, .ref (A (rc)))] := hl
  have lk_0 : ∀ w ∈ wsX30, w ∈ wsX3_divide := by decide +kernel
  have lk_1 : Cond.fieldLink RX3 22 (TX3 2).1 (TX3 2).2.1 (TX3 2).2.2.1 ∈ wsX3_divide := by decide +kernel
  have hCg := hC
  have hBg := hB
  have hR2 := hRX
  obtain ⟨⟨zr, hr0⟩, _⟩ := hR2
  obtain ⟨h0, hz10, f, h4, hf⟩ := hC
  refine lv_aload_n X.1 X.2.1 dX3_divide_0 rfl (lv_at hl 2 rfl) ?_
  refine lv_aload_n X.1 X.2.1 dX3_divide_1 rfl (lv_at hl 1 rfl) ?_
  refine x_cv (x_runV (k := 1) (As := [.ref (A (nc))]) (rest := []) X hW (c_X8_put l E A n _ g rc nc v (by omega) (by omega) (by omega) hRX hNv) (by omega) hr0 rfl gX3_divide_X8_put rfl rfl rfl (by decide +kernel) ⟨by decide, by decide⟩ rfl hl.1 rfl (Nat.le_of_ble_eq_true rfl) dX3_divide_2 ⟨Nat.zero_le _, Nat.zero_le _⟩) hW (fun g_2 H locs hp_2 hW => ?_)
  obtain ⟨hRv, hf_2⟩ := hp_2
  have hfr : ∀ j, (j < rc ∨ rc + 8 < j) → g_2 j = g j := hf_2
  have hRv : ResV E A g_2 rc (rdT (v : Int) 1) (rdB (v : Int) 1) := by rw [rdT_1, rdB_1]; exact hRv
  refine x_iconst X dX3_divide_5 ?_
  refine x_seti (((0 : Nat) : Int)) rfl ?_
  refine lv_istore_n (lv' := [(3, .int (iI (((0 : Nat) : Int)))), (0, .ref (A (i))), (1, .ref (A (nc))), (2, .ref (A (rc)))]) X.1 X.2.1 dX3_divide_6 rfl hl (by decide) rfl (fun ls hl => ?_)
  have loop_7 : ∀ (fuel : Nat) (k : Nat) (gw : Nat → va_E) (H : Heap) (locs : List Loc) (ls : Array Slot), (cz - k) < fuel → (k ≤ cz) → (ResV E A gw rc (rdT (v : Int) (pr (fun k => bE (Lk k) (fun _ => 1)) k)) (rdB (v : Int) (pr (fun k => bE (Lk k) (fun _ => 1)) k))) → (∀ j, (j < rc ∨ rc + 8 < j) → gw j = g j) → wH E (wF A n sz) A n s gw H locs → lv_has ls 4 [(0, .ref (A (i))), (2, .ref (A (rc))), (3, .int (iI ((k : Int))))] → W p l e ({ frames := 5, cells := 0, slots := 0, locals := 240 } : Room) s m [.ref (A (i)), .ref (A (nc)), .ref (A (rc))].toArray below meth c H locs 0 0 (MQ below (va_Qv (fun g' => ResV E A g' rc (rdT (v : Int) (pr (fun k => bE (Lk k) (fun _ => 1)) cz)) (rdB (v : Int) (pr (fun k => bE (Lk k) (fun _ => 1)) cz)) ∧ ∀ j, (j < rc ∨ rc + 8 < j) → g' j = g j) (wAt E A n) (wF A n sz)) [.ref (A (i)), .ref (A (nc)), .ref (A (rc))].toArray s 0 0 (wF A n sz)) (F0 m 7 ls []) := by
    intro fuel
    induction fuel with
    | zero => intro k gw H locs ls hm; exact absurd hm (Nat.not_lt_zero _)
    | succ fuel ih_7 =>
      intro k gw H locs ls hm hk hRv hfr hW hl
      have hC : CrowdV E A gw i cz bc := hCg.frame (hfr _ (by omega)) (hfr _ (by omega))
      have hB : BksV E A gw n cz bc Lk := hBg.frame (fun k hk => by have := hdb k hk; exact ⟨hfr _ (by omega), hfr _ (by omega), hfr _ (by omega)⟩)
      have hC2 := hC
      obtain ⟨h0, hz10, f, h4, hf⟩ := hC2
      have hr0 := hRv.1
      refine lv_iload_n X.1 X.2.1 dX3_divide_7 rfl (lv_at hl 2 rfl) ?_
      refine lv_aload_n X.1 X.2.1 dX3_divide_8 rfl (lv_at hl 0 rfl) ?_
      refine x_get (C := RX3) (T := TX3) (N := 3) X hW (by omega) h0 rfl lk_0 2 (by decide) lk_1 rfl dX3_divide_9 ?_
      refine x_icmp_ge (tgt := 33) X ⟨by omega, by omega⟩ ⟨by omega, by omega⟩ dX3_divide_12 (by decide) (fun b_12 => ?_) (fun b_12 => ?_)
      · exact x_vret X hr hlk hW (⟨by rw [show cz = k from by omega]; exact hRv, hfr⟩) dX3_divide_33
      · have hk9 : k < cz := by omega
        have hb9 := (hB k hk9).2.tot
        have hpk : pr (fun k => bE (Lk k) (fun _ => 1)) k * bE (Lk k) (fun _ => 1) < 10 ^ 54 := pr_8000 (f := (fun k => bE (Lk k) (fun _ => 1))) (k := k + 1) (by omega) (fun j hj => (hB j (by omega)).2.tot)
        refine lv_aload_n X.1 X.2.1 dX3_divide_15 rfl (lv_at hl 1 rfl) ?_
        refine lv_aload_n X.1 X.2.1 dX3_divide_16 rfl (lv_at hl 0 rfl) ?_
        refine lv_iload_n X.1 X.2.1 dX3_divide_17 rfl (lv_at hl 2 rfl) ?_
        refine x_cr (x_runV (k := 1) (As := [.int (iI ((k : Int)))]) (rest := [.ref (A (rc))]) X hW (c_X3_at l E A n _ gw i cz bc k hi hC hk9) (by omega) h0 rfl gX3_divide_X3_at rfl rfl rfl (by decide +kernel) ⟨by decide, by decide⟩ rfl hl.1 rfl (Nat.le_of_ble_eq_true rfl) dX3_divide_18 ⟨Nat.zero_le _, Nat.zero_le _⟩) hW (fun j_18 g_18 H locs hp_18 hW => ?_)
        have hj_18 : j_18 = bc k := hp_18.1
        have he_18 : g_18 = gw := hp_18.2
        rw [he_18] at hW
        subst hj_18
        obtain ⟨hbn_18, hbv_18⟩ := hB k hk9
        have hbx_18 := hbv_18
        obtain ⟨bz_18, wo_18, we_18, tot_18, hbc_18, _⟩ := hbx_18
        have hbo_18 := hbc_18.1
        refine x_ci (x_runV (k := 0) (As := []) (rest := [.ref (A (rc))]) X hW (c_X0_total l E A n _ gw (bc k) (Lk k) hbn_18 hbv_18) (by omega) hbo_18 rfl gX3_divide_X0_total rfl rfl rfl (by decide +kernel) ⟨by decide, by decide⟩ rfl hl.1 rfl (Nat.le_of_ble_eq_true rfl) dX3_divide_21 ⟨Nat.zero_le _, Nat.zero_le _⟩) hW (fun r_21 g_21 H locs hp_21 hW => ?_)
        obtain ⟨hr_21, he_21⟩ := hp_21
        rw [he_21] at hW
        subst hr_21
        refine x_cv (x_runV (k := 1) (As := [.int (iI (((bE (Lk k) (fun _ => 1) : Nat) : Int)))]) (rest := []) X hW (c_X8_over l E A n _ gw rc (v : Int) (pr (fun k => bE (Lk k) (fun _ => 1)) k) (bE (Lk k) (fun _ => 1)) (by omega) (pr_pos k (fun j hj => htp j (by omega))) (htp k hk9) (by omega) hRv hpk) (by omega) hr0 rfl gX3_divide_X8_over rfl rfl rfl (by decide +kernel) ⟨by decide, by decide⟩ rfl hl.1 rfl (Nat.le_of_ble_eq_true rfl) dX3_divide_24 ⟨Nat.zero_le _, Nat.zero_le _⟩) hW (fun g_24 H locs hp_24 hW => ?_)
        obtain ⟨hRv, hf_24⟩ := hp_24
        have hfr : ∀ j, (j < rc ∨ rc + 8 < j) → g_24 j = g j := fun j hj => (hf_24 j hj).trans (hfr j hj)
        refine lv_iinc (v := iI (((k + 1 : Nat) : Int))) (lv' := [(3, .int (iI (((k + 1 : Nat) : Int)))), (0, .ref (A (i))), (2, .ref (A (rc)))]) X.1 X.2.1 dX3_divide_27 hl (k := 2) rfl (by rw [show (Int32.ofInt (1)) = iI (1) from rfl, iI_add]; rfl) (by decide) rfl (fun ls hl => ?_)
        refine lv_goto (tgt := 7) X.1 X.2.1 dX3_divide_30 (by decide) ?_
        exact ih_7 (k + 1) g_24 _ _ _ (by omega) (by omega) hRv hfr hW (lv_sub hl [1, 2, 0] rfl)
  exact loop_7 _ 0 g_2 _ _ _ (Nat.lt_succ_self _) (Nat.zero_le _) hRv hfr hW (lv_sub hl [1, 3, 0] rfl)
