/-! ===== the class's Result ===== -/
def ResX (E : wE) (A : Nat → Nat) (g : Nat → va_E) (i : Nat) : Prop := (∃ z : Int, g i = .inr (8, [.ref (A (i + 1)), .ref (A (i + 3)), .ref (A (i + 5)), .ref (A (i + 7)), .int (iI (z))])) ∧ NatX E A g (i + 1) ∧ NatX E A g (i + 3) ∧ NatX E A g (i + 5) ∧ NatX E A g (i + 7)
def ResV (E : wE) (A : Nat → Nat) (g : Nat → va_E) (i : Nat) (t : Int) (b : Nat) : Prop := g i = .inr (8, [.ref (A (i + 1)), .ref (A (i + 3)), .ref (A (i + 5)), .ref (A (i + 7)), .int (iI (t.sign))]) ∧ NatV E A g (i + 1) t.natAbs ∧ NatV E A g (i + 3) b ∧ NatX E A g (i + 5) ∧ NatX E A g (i + 7) ∧ 0 < b
theorem ResV.any {E : wE} {A : Nat → Nat} {g : Nat → va_E} {i : Nat} {t : Int} {b : Nat} (h : ResV E A g i t b) : ResX E A g i := ⟨⟨_, h.1⟩, h.2.1.any, h.2.2.1.any, h.2.2.2.1, h.2.2.2.2.1⟩
theorem ResV.frame {E : wE} {A : Nat → Nat} {g g' : Nat → va_E} {i : Nat} {t : Int} {b : Nat} (h : ResV E A g i t b) (hf : ∀ j, i ≤ j → j ≤ i + 8 → g' j = g j) : ResV E A g' i t b := ⟨(hf _ (by omega) (by omega)).trans h.1, h.2.1.frame (hf _ (by omega) (by omega)) (hf _ (by omega) (by omega)), h.2.2.1.frame (hf _ (by omega) (by omega)) (hf _ (by omega) (by omega)), h.2.2.2.1.frame (hf _ (by omega) (by omega)) (hf _ (by omega) (by omega)), h.2.2.2.2.1.frame (hf _ (by omega) (by omega)) (hf _ (by omega) (by omega)), h.2.2.2.2.2⟩
theorem ResX.frame {E : wE} {A : Nat → Nat} {g g' : Nat → va_E} {i : Nat} (h : ResX E A g i) (hf : ∀ j, i ≤ j → j ≤ i + 8 → g' j = g j) : ResX E A g' i := by
  obtain ⟨⟨z, h0⟩, h1, h2, h3, h4⟩ := h
  exact ⟨⟨z, (hf _ (by omega) (by omega)).trans h0⟩, h1.frame (hf _ (by omega) (by omega)) (hf _ (by omega) (by omega)), h2.frame (hf _ (by omega) (by omega)) (hf _ (by omega) (by omega)), h3.frame (hf _ (by omega) (by omega)) (hf _ (by omega) (by omega)), h4.frame (hf _ (by omega) (by omega)) (hf _ (by omega) (by omega))⟩
theorem eu_half {g l : Nat} (h0 : 0 < l) (h : l < g) : 2 * (g % l) < g := by
  have h1 := Nat.mod_lt g h0
  have h2 := Nat.div_add_mod g l
  have h3 : 1 ≤ g / l := Nat.div_pos (Nat.le_of_lt h) h0
  have h4 : l * 1 ≤ l * (g / l) := Nat.mul_le_mul_left l h3
  omega
theorem eu_step {g l k : Nat} (h0 : 0 < l) (h : l < g) (hb : g * l * 2 ^ k < 2 ^ 62) : l * (g % l) * 2 ^ (k + 1) < 2 ^ 62 := by
  have h1 := eu_half h0 h
  have h2 : l * (g % l) * 2 ^ (k + 1) = (l * (2 * (g % l))) * 2 ^ k := by rw [Nat.pow_succ, Nat.mul_comm (2 ^ k) 2, ← Nat.mul_assoc, Nat.mul_assoc l, Nat.mul_comm (g % l) 2]
  rw [h2]
  have h3 : l * (2 * (g % l)) ≤ g * l := by rw [Nat.mul_comm g l]; exact Nat.mul_le_mul_left l (Nat.le_of_lt h1)
  exact Nat.lt_of_le_of_lt (Nat.mul_le_mul_right _ h3) hb
theorem eu_few {g l k : Nat} (h0 : 0 < l) (h : l < g) (hb : g * l * 2 ^ k < 2 ^ 62) : k < 62 := by
  apply Decidable.byContradiction
  intro hc
  have h1 : 2 ^ 62 ≤ 2 ^ k := Nat.pow_le_pow_right (by decide) (by omega)
  have h2 : 1 ≤ g * l := Nat.mul_pos (by omega) h0
  have h3 : 1 * 2 ^ k ≤ g * l * 2 ^ k := Nat.mul_le_mul_right _ h2
  omega

set_option maxHeartbeats 4000000 in
set_option maxRecDepth 100000 in
/-- commonDivisor -/
theorem c_X8_commonDivisor (l : Launch) (E : wE) (A : Nat → Nat) (n sz : Nat) (g : Nat → va_E) (a b : Nat) (ha : a < 2147483648) (hb : b < a) : Met l yX8_commonDivisor wsX8_commonDivisor ({ frames := 1, cells := 0, slots := 0, locals := 30 } : Room) (va_Pc [.int (iI ((a : Int))), .int (iI ((b : Int)))] (wPre E A n sz g)) (va_Qi (fun r g' => r = iI ((Nat.gcd a b : Nat) : Int) ∧ g' = g) (wAt E A n) (wF A n sz)) 0 0 (wF A n sz) := by
  refine x_met (cc := cX8_commonDivisor) (maxL := 6) (ret := (some .int)) [.int (iI ((a : Int))), .int (iI ((b : Int)))] (by decide) rfl (Nat.le_of_ble_eq_true rfl) ?_
  intro p e s m below meth c ls X hr hlk hnm hsz hW hl
  have hl : lv_has ls 6 [(0, .int (iI ((a : Int)))), (1, .int (iI ((b : Int))))] := hl
  refine lv_iload_n X.1 X.2.1 dX8_commonDivisor_0 rfl (lv_at hl 0 rfl) ?_
  refine lv_istore_n (lv' := [(2, .int (iI ((a : Int)))), (0, .int (iI ((a : Int)))), (1, .int (iI ((b : Int))))]) X.1 X.2.1 dX8_commonDivisor_1 rfl hl (by decide) rfl (fun ls hl => ?_)
  refine lv_iload_n X.1 X.2.1 dX8_commonDivisor_2 rfl (lv_at hl 2 rfl) ?_
  refine lv_istore_n (lv' := [(3, .int (iI ((b : Int)))), (2, .int (iI ((a : Int)))), (0, .int (iI ((a : Int)))), (1, .int (iI ((b : Int))))]) X.1 X.2.1 dX8_commonDivisor_3 rfl hl (by decide) rfl (fun ls hl => ?_)
  refine x_iconst X dX8_commonDivisor_4 ?_
  refine x_seti (((0 : Nat) : Int)) rfl ?_
  refine lv_istore (lv' := [(4, .int (iI (((0 : Nat) : Int)))), (3, .int (iI ((b : Int)))), (2, .int (iI ((a : Int)))), (0, .int (iI ((a : Int)))), (1, .int (iI ((b : Int))))]) X.1 X.2.1 dX8_commonDivisor_5 hl (by decide) rfl (fun ls hl => ?_)
  have loop_7 : ∀ (fuel : Nat) (u : Nat) (w : Nat) (k : Nat) (gw : Nat → va_E) (H : Heap) (locs : List Loc) (ls : Array Slot), (w) < fuel → (u < 2147483648) → (w < u) → (Nat.gcd u w = Nat.gcd a b) → (w = 0 ∨ u * w * 2 ^ k < 2 ^ 62) → (k ≤ 63) → (gw = g) → wH E (wF A n sz) A n s gw H locs → lv_has ls 6 [(2, .int (iI ((u : Int)))), (3, .int (iI ((w : Int)))), (4, .int (iI ((k : Int))))] → W p l e ({ frames := 1, cells := 0, slots := 0, locals := 30 } : Room) s m [.int (iI ((a : Int))), .int (iI ((b : Int)))].toArray below meth c H locs 0 0 (MQ below (va_Qi (fun r g' => r = iI ((Nat.gcd a b : Nat) : Int) ∧ g' = g) (wAt E A n) (wF A n sz)) [.int (iI ((a : Int))), .int (iI ((b : Int)))].toArray s 0 0 (wF A n sz)) (F0 m 7 ls []) := by
    intro fuel
    induction fuel with
    | zero => intro u w k gw H locs ls hm; exact absurd hm (Nat.not_lt_zero _)
    | succ fuel ih_7 =>
      intro u w k gw H locs ls hm hu hw hg hk hk2 hgg hW hl
      refine lv_iload X.1 X.2.1 dX8_commonDivisor_7 (lv_at hl 2 rfl) ?_
      refine x_bipush X (by decide) dX8_commonDivisor_9 ?_
      refine x_icmp_ge (tgt := 34) X ⟨by omega, by omega⟩ ⟨by decide, by decide⟩ dX8_commonDivisor_11 (by decide) (fun b_11 => ?_) (fun b_11 => ?_)
      · exact absurd b_11 (by omega)
      · refine lv_iload_n X.1 X.2.1 dX8_commonDivisor_14 rfl (lv_at hl 1 rfl) ?_
        refine x_if_eq (tgt := 34) X ⟨by omega, by omega⟩ dX8_commonDivisor_15 (by decide) (fun b_15 => ?_) (fun b_15 => ?_)
        · refine lv_iload_n X.1 X.2.1 dX8_commonDivisor_34 rfl (lv_at hl 0 rfl) ?_
          exact x_iret X hr hlk hW (⟨by rw [← hg, show w = 0 from by omega, Nat.gcd_zero_right], hgg⟩) dX8_commonDivisor_35
        · have hw0 : 0 < w := by omega
          have hk3 : u * w * 2 ^ k < 2 ^ 62 := by rcases hk with h | h; omega; exact h
          have hk4 := eu_few hw0 hw hk3
          refine lv_iload_n X.1 X.2.1 dX8_commonDivisor_18 rfl (lv_at hl 0 rfl) ?_
          refine lv_iload_n X.1 X.2.1 dX8_commonDivisor_19 rfl (lv_at hl 1 rfl) ?_
          refine x_irem X ⟨by omega, by omega⟩ ⟨by omega, by omega⟩ (by omega) (by omega) dX8_commonDivisor_20 ?_
          refine x_seti (((u % w : Nat) : Int)) (by omega) ?_
          refine lv_istore (lv' := [(5, .int (iI (((u % w : Nat) : Int)))), (2, .int (iI ((u : Int)))), (3, .int (iI ((w : Int)))), (4, .int (iI ((k : Int))))]) X.1 X.2.1 dX8_commonDivisor_21 hl (by decide) rfl (fun ls hl => ?_)
          refine lv_iload_n X.1 X.2.1 dX8_commonDivisor_23 rfl (lv_at hl 2 rfl) ?_
          refine lv_istore_n (lv' := [(2, .int (iI ((w : Int)))), (5, .int (iI (((u % w : Nat) : Int)))), (3, .int (iI ((w : Int)))), (4, .int (iI ((k : Int))))]) X.1 X.2.1 dX8_commonDivisor_24 rfl hl (by decide) rfl (fun ls hl => ?_)
          refine lv_iload X.1 X.2.1 dX8_commonDivisor_25 (lv_at hl 1 rfl) ?_
          refine lv_istore_n (lv' := [(3, .int (iI (((u % w : Nat) : Int)))), (2, .int (iI ((w : Int)))), (5, .int (iI (((u % w : Nat) : Int)))), (4, .int (iI ((k : Int))))]) X.1 X.2.1 dX8_commonDivisor_27 rfl hl (by decide) rfl (fun ls hl => ?_)
          refine lv_iinc (v := iI (((k + 1 : Nat) : Int))) (lv' := [(4, .int (iI (((k + 1 : Nat) : Int)))), (3, .int (iI (((u % w : Nat) : Int)))), (2, .int (iI ((w : Int)))), (5, .int (iI (((u % w : Nat) : Int))))]) X.1 X.2.1 dX8_commonDivisor_28 hl (k := 3) rfl (by rw [show (Int32.ofInt (1)) = iI (1) from rfl, iI_add]; rfl) (by decide) rfl (fun ls hl => ?_)
          refine lv_goto (tgt := 7) X.1 X.2.1 dX8_commonDivisor_31 (by decide) ?_
          exact ih_7 w (u % w) (k + 1) gw _ _ _ (by have := Nat.mod_lt u hw0; omega) (by omega) (Nat.mod_lt u hw0) (by rw [Nat.gcd_comm w, ← Nat.gcd_rec, Nat.gcd_comm]; exact hg) (Or.inr (eu_step hw0 hw hk3)) (by omega) hgg hW (lv_sub hl [2, 1, 0] rfl)
  exact loop_7 _ a b 0 g _ _ _ (Nat.lt_succ_self _) ha hb rfl (Or.inr (by rw [Nat.pow_zero, Nat.mul_one]; exact Nat.lt_of_le_of_lt (Nat.mul_le_mul (Nat.le_of_lt_succ ha) (Nat.le_of_lt_succ (Nat.lt_trans hb ha))) (by decide))) (by omega) rfl hW (lv_sub hl [2, 1, 0] rfl)

theorem rd_over {P : Int} {Q f : Nat} (hQ : 0 < Q) (hf : 0 < f) : rdT P (Q * f) = (rdT P Q).sign * (((rdT P Q).natAbs / Nat.gcd (rdT P Q).natAbs f : Nat) : Int) ∧ rdB P (Q * f) = rdB P Q * (f / Nat.gcd (rdT P Q).natAbs f) ∧ 0 < rdB P Q := by
  obtain ⟨p, hp⟩ : ∃ p, p = P.natAbs := ⟨_, rfl⟩
  obtain ⟨G, hG⟩ : ∃ G, G = Nat.gcd p Q := ⟨_, rfl⟩
  have hG0 : 0 < G := by rw [hG]; exact Nat.gcd_pos_of_pos_right _ hQ
  obtain ⟨t, ht⟩ : G ∣ p := by rw [hG]; exact Nat.gcd_dvd_left _ _
  obtain ⟨b, hb⟩ : G ∣ Q := by rw [hG]; exact Nat.gcd_dvd_right _ _
  have hcop : Nat.gcd t b = 1 := by
    have : G * Nat.gcd t b = G * 1 := by rw [← Nat.gcd_mul_left, ← ht, ← hb, Nat.mul_one]; exact hG.symm
    exact Nat.eq_of_mul_eq_mul_left hG0 this
  have e1 : (rdT P Q).natAbs = t := by
    unfold rdT
    rw [← hp, ← hG, ht, Nat.mul_div_cancel_left _ hG0, Int.natAbs_mul]
    by_cases h : P = 0
    · subst h
      have : p = 0 := by rw [hp]; rfl
      rw [this] at ht
      have : t = 0 := by rcases Nat.mul_eq_zero.mp ht.symm with h | h; omega; exact h
      rw [this]; rfl
    · rw [Int.natAbs_sign_of_ne_zero h, Nat.one_mul]; rfl
  have e2 : (rdT P Q).sign = P.sign ∨ t = 0 := by
    by_cases h : t = 0
    · exact Or.inr h
    · left
      unfold rdT
      rw [← hp, ← hG, ht, Nat.mul_div_cancel_left _ hG0, Int.sign_mul, Int.sign_sign, Int.sign_eq_one_of_pos (a := ((t : Nat) : Int)) (by omega), Int.mul_one]
  have e3 : rdB P Q = b := by
    unfold rdB
    rw [← hp, ← hG, hb, Nat.mul_div_cancel_left _ hG0]
  have hc0 : 0 < Nat.gcd t f := Nat.gcd_pos_of_pos_right _ hf
  have e4 : Nat.gcd p (Q * f) = G * Nat.gcd t f := by
    rw [ht, hb, Nat.mul_assoc, Nat.gcd_mul_left, Nat.Coprime.gcd_mul_left_cancel_right f (show Nat.Coprime b t from by show Nat.gcd b t = 1; rw [Nat.gcd_comm]; exact hcop)]
  have hb0 : 0 < b := Nat.pos_of_ne_zero (fun h => by rw [h, Nat.mul_zero] at hb; omega)
  refine ⟨?_, ?_, by rw [e3]; exact hb0⟩
  · rw [e1]
    unfold rdT at *
    rw [← hp, e4, ht, Nat.mul_div_mul_left _ _ hG0]
    rcases e2 with h | h
    · rw [← ht, hp, ← hG] at *
      rw [h]
    · rw [h, Nat.zero_div]; show _ * (0 : Int) = _ * (0 : Int); rw [Int.mul_zero, Int.mul_zero]
  · rw [e1, e3]
    unfold rdB
    rw [← hp, e4, hb, Nat.mul_assoc, Nat.mul_div_mul_left _ _ hG0, Nat.mul_div_assoc _ (Nat.gcd_dvd_right t f)]
theorem rdT_1 (P : Int) : rdT P 1 = P := by
  unfold rdT
  rw [Nat.gcd_one_right, Nat.div_one]
  exact Int.sign_mul_natAbs P
theorem rdB_1 (P : Int) : rdB P 1 = 1 := by unfold rdB; rw [Nat.gcd_one_right]
theorem rdT_abs_le (P : Int) (Q : Nat) : (rdT P Q).natAbs ≤ P.natAbs := by
  unfold rdT
  rw [Int.natAbs_mul]
  have h1 : P.sign.natAbs ≤ 1 := by
    by_cases h : P = 0
    · subst h; decide
    · rw [Int.natAbs_sign_of_ne_zero h]; exact Nat.le_refl 1
  have h2 : P.natAbs / Nat.gcd P.natAbs Q ≤ P.natAbs := Nat.div_le_self _ _
  calc P.sign.natAbs * (((P.natAbs / Nat.gcd P.natAbs Q : Nat) : Int)).natAbs ≤ 1 * (P.natAbs) := Nat.mul_le_mul h1 h2
    _ = P.natAbs := Nat.one_mul _
theorem rdB_le (P : Int) (Q : Nat) : rdB P Q ≤ Q := Nat.div_le_self _ _
theorem rdT_sign (P : Int) {Q : Nat} (hQ : 0 < Q) : (rdT P Q).sign = P.sign := by
  unfold rdT
  rw [Int.sign_mul, Int.sign_sign]
  by_cases h : P = 0
  · subst h; rw [Int.sign_zero, Int.zero_mul]
  · have h1 : 0 < P.natAbs := by omega
    have h2 : 0 < P.natAbs / Nat.gcd P.natAbs Q := Nat.div_pos (Nat.gcd_le_left _ h1) (Nat.gcd_pos_of_pos_right _ hQ)
    rw [Int.sign_eq_one_of_pos (a := ((P.natAbs / Nat.gcd P.natAbs Q : Nat) : Int)) (by omega), Int.mul_one]

set_option maxHeartbeats 4000000 in
set_option maxRecDepth 100000 in
/-- put -/
theorem c_X8_put (l : Launch) (E : wE) (A : Nat → Nat) (n sz : Nat) (g : Nat → va_E) (i j0 v : Nat) (hi : i + 8 < n) (hj : j0 + 1 < n) (hij : j0 + 1 < i ∨ i + 8 < j0 ∨ j0 = i + 5) (hR : ResX E A g i) (hV : NatV E A g j0 v) : Met l yX8_put wsX8_put ({ frames := 3, cells := 0, slots := 0, locals := 140 } : Room) (va_Pc [.ref (A (i)), .ref (A (j0))] (wPre E A n sz g)) (va_Qv (fun g' => ResV E A g' i (v : Int) 1 ∧ ∀ j, (j < i ∨ i + 8 < j) → g' j = g j) (wAt E A n) (wF A n sz)) 0 0 (wF A n sz) := by
  refine x_met (cc := cX8_put) (maxL := 2) (ret := none) [.ref (A (i)), .ref (A (j0))] (by decide) rfl (Nat.le_of_ble_eq_true rfl) ?_
  intro p e s m below meth c ls X hr hlk hnm hsz hW hl
  have hl : lv_has ls 2 [(0, .ref (A (i))), (1, .ref (A (j0)))] := hl
  have lk_0 : ∀ w ∈ wsX80, w ∈ wsX8_put := by decide +kernel
  have lk_1 : Cond.fieldLink RX8 10 (TX8 0).1 (TX8 0).2.1 (TX8 0).2.2.1 ∈ wsX8_put := by decide +kernel
  have lk_2 : Cond.fieldLink RX8 16 (TX8 1).1 (TX8 1).2.1 (TX8 1).2.2.1 ∈ wsX8_put := by decide +kernel
  have lk_3 : Cond.fieldLink RX8 25 (TX8 4).1 (TX8 4).2.1 (TX8 4).2.2.1 ∈ wsX8_put := by decide +kernel
  obtain ⟨⟨z, h0⟩, n_i___1, n_i___3, n_i___5, n_i___7⟩ := hR
  have n_j0 := hV
  have hfr : ∀ j, (j < i ∨ i + 8 < j) → g j = g j := fun _ _ => rfl
  refine lv_aload_n X.1 X.2.1 dX8_put_0 rfl (lv_at hl 0 rfl) ?_
  refine x_get (C := RX8) (T := TX8) (N := 5) X hW (by omega) h0 rfl lk_0 0 (by decide) lk_1 rfl dX8_put_1 ?_
  refine lv_aload_n X.1 X.2.1 dX8_put_4 rfl (lv_at hl 1 rfl) ?_
  refine x_cv (x_runV (k := 1) (As := [.ref (A (j0))]) (rest := []) X hW (c_X5_copy l E A n _ g (i + 1) j0 v (by omega) hj (by omega) (by omega) (by omega) n_i___1 n_j0) (by omega) n_i___1.1 rfl gX8_put_X5_copy rfl rfl rfl (by decide +kernel) ⟨by decide, by decide⟩ rfl hl.1 rfl (Nat.le_of_ble_eq_true rfl) dX8_put_5 ⟨Nat.zero_le _, Nat.zero_le _⟩) hW (fun g_5 H locs hp_5 hW => ?_)
  obtain ⟨nv_5, hf_5⟩ := hp_5
  have h0 : g_5 i = .inr (8, [.ref (A (i + 1)), .ref (A (i + 3)), .ref (A (i + 5)), .ref (A (i + 7)), .int (iI (z))]) := by rw [hf_5 _ (by omega)]; exact h0
  have n_i___3 : NatX E A g_5 (i + 3) := n_i___3.frame (hf_5 _ (by omega)) (hf_5 _ (by omega))
  have n_i___5 : NatX E A g_5 (i + 5) := n_i___5.frame (hf_5 _ (by omega)) (hf_5 _ (by omega))
  have n_i___7 : NatX E A g_5 (i + 7) := n_i___7.frame (hf_5 _ (by omega)) (hf_5 _ (by omega))
  have n_j0 : NatV E A g_5 j0 v := n_j0.frame (hf_5 _ (by omega)) (hf_5 _ (by omega))
  have n_i___1 : NatV E A g_5 (i + 1) v := nv_5
  have hfr : ∀ j, (j < i ∨ i + 8 < j) → g_5 j = g j := fun j hj => (hf_5 j (by omega)).trans (hfr j hj)
  refine lv_aload_n X.1 X.2.1 dX8_put_8 rfl (lv_at hl 0 rfl) ?_
  refine x_get (C := RX8) (T := TX8) (N := 5) X hW (by omega) h0 rfl lk_0 1 (by decide) lk_2 rfl dX8_put_9 ?_
  refine x_lconst X 1 (by decide) dX8_put_12 ?_
  refine x_cv (x_runV (k := 1) (As := [.long (lI (1))]) (rest := []) X hW (c_X5_put l E A n _ g_5 (i + 3) 1 (by omega) n_i___3 (by decide)) (by omega) n_i___3.1 rfl gX8_put_X5_put rfl rfl rfl (by decide +kernel) ⟨by decide, by decide⟩ rfl hl.1 rfl (Nat.le_of_ble_eq_true rfl) dX8_put_13 ⟨Nat.zero_le _, Nat.zero_le _⟩) hW (fun g_13 H locs hp_13 hW => ?_)
  obtain ⟨nv_13, hf_13⟩ := hp_13
  have h0 : g_13 i = .inr (8, [.ref (A (i + 1)), .ref (A (i + 3)), .ref (A (i + 5)), .ref (A (i + 7)), .int (iI (z))]) := by rw [hf_13 _ (by omega)]; exact h0
  have n_i___1 : NatV E A g_13 (i + 1) v := n_i___1.frame (hf_13 _ (by omega)) (hf_13 _ (by omega))
  have n_i___5 : NatX E A g_13 (i + 5) := n_i___5.frame (hf_13 _ (by omega)) (hf_13 _ (by omega))
  have n_i___7 : NatX E A g_13 (i + 7) := n_i___7.frame (hf_13 _ (by omega)) (hf_13 _ (by omega))
  have n_j0 : NatV E A g_13 j0 v := n_j0.frame (hf_13 _ (by omega)) (hf_13 _ (by omega))
  have n_i___3 : NatV E A g_13 (i + 3) 1 := nv_13
  have hfr : ∀ j, (j < i ∨ i + 8 < j) → g_13 j = g j := fun j hj => (hf_13 j (by omega)).trans (hfr j hj)
  refine lv_aload_n X.1 X.2.1 dX8_put_16 rfl (lv_at hl 0 rfl) ?_
  refine lv_aload_n X.1 X.2.1 dX8_put_17 rfl (lv_at hl 1 rfl) ?_
  refine x_ci (x_runV (k := 0) (As := []) (rest := [.ref (A (i))]) X hW (c_X5_isZero l E A n _ g_13 j0 v hj n_j0) (by omega) n_j0.2.1 rfl gX8_put_X5_isZero rfl rfl rfl (by decide +kernel) ⟨by decide, by decide⟩ rfl hl.1 rfl (Nat.le_of_ble_eq_true rfl) dX8_put_18 ⟨Nat.zero_le _, Nat.zero_le _⟩) hW (fun r_18 g_18 H locs hp_18 hW => ?_)
  obtain ⟨hr_18, he_18⟩ := hp_18
  rw [he_18] at hW
  subst hr_18
  refine x_if_eq (tgt := 28) X ⟨by split <;> decide, by split <;> decide⟩ dX8_put_21 (by decide) (fun b_21 => ?_) (fun b_21 => ?_)
  · have hv0 : ¬ v = 0 := fun h => by rw [if_pos h] at b_21; omega
    refine x_iconst X dX8_put_28 ?_
    refine x_seti (((v : Nat) : Int).sign) (by rw [Int.sign_eq_one_of_pos (by omega)]) ?_
    refine x_put (C := RX8) (T := TX8) (N := 5) X hW (by omega) h0 rfl lk_0 tyX8 tyX8_ok nmX8 4 (by decide) lk_3 rfl rfl rfl (Nat.le_of_ble_eq_true rfl) dX8_put_29 (fun g_29 H locs hg_29 hW => ?_)
    have h0 : g_29 i = .inr (8, [.ref (A (i + 1)), .ref (A (i + 3)), .ref (A (i + 5)), .ref (A (i + 7)), .int (iI (((v : Nat) : Int).sign))]) := by rw [hg_29]; exact va_up_self _ _ _
    have hf_29 : ∀ j, j ≠ i → g_29 j = g_13 j := fun j hj => by rw [hg_29]; exact va_up_ne _ _ hj
    have n_i___1 : NatV E A g_29 (i + 1) v := n_i___1.frame (hf_29 _ (by omega)) (hf_29 _ (by omega))
    have n_i___3 : NatV E A g_29 (i + 3) 1 := n_i___3.frame (hf_29 _ (by omega)) (hf_29 _ (by omega))
    have n_i___5 : NatX E A g_29 (i + 5) := n_i___5.frame (hf_29 _ (by omega)) (hf_29 _ (by omega))
    have n_i___7 : NatX E A g_29 (i + 7) := n_i___7.frame (hf_29 _ (by omega)) (hf_29 _ (by omega))
    have n_j0 : NatV E A g_29 j0 v := n_j0.frame (hf_29 _ (by omega)) (hf_29 _ (by omega))
    have hfr : ∀ j, (j < i ∨ i + 8 < j) → g_29 j = g j := fun j hj => (hf_29 j (by omega)).trans (hfr j hj)
    exact x_vret X hr hlk hW (⟨⟨h0, n_i___1, n_i___3, n_i___5, n_i___7, by decide⟩, hfr⟩) dX8_put_32
  · have hv0 : v = 0 := Decidable.byContradiction (fun h => b_21 (if_neg h))
    refine x_iconst X dX8_put_24 ?_
    refine lv_goto (tgt := 29) X.1 X.2.1 dX8_put_25 (by decide) ?_
    refine x_seti (((v : Nat) : Int).sign) (by rw [hv0]; rfl) ?_
    refine x_put (C := RX8) (T := TX8) (N := 5) X hW (by omega) h0 rfl lk_0 tyX8 tyX8_ok nmX8 4 (by decide) lk_3 rfl rfl rfl (Nat.le_of_ble_eq_true rfl) dX8_put_29 (fun g_29 H locs hg_29 hW => ?_)
    have h0 : g_29 i = .inr (8, [.ref (A (i + 1)), .ref (A (i + 3)), .ref (A (i + 5)), .ref (A (i + 7)), .int (iI (((v : Nat) : Int).sign))]) := by rw [hg_29]; exact va_up_self _ _ _
    have hf_29 : ∀ j, j ≠ i → g_29 j = g_13 j := fun j hj => by rw [hg_29]; exact va_up_ne _ _ hj
    have n_i___1 : NatV E A g_29 (i + 1) v := n_i___1.frame (hf_29 _ (by omega)) (hf_29 _ (by omega))
    have n_i___3 : NatV E A g_29 (i + 3) 1 := n_i___3.frame (hf_29 _ (by omega)) (hf_29 _ (by omega))
    have n_i___5 : NatX E A g_29 (i + 5) := n_i___5.frame (hf_29 _ (by omega)) (hf_29 _ (by omega))
    have n_i___7 : NatX E A g_29 (i + 7) := n_i___7.frame (hf_29 _ (by omega)) (hf_29 _ (by omega))
    have n_j0 : NatV E A g_29 j0 v := n_j0.frame (hf_29 _ (by omega)) (hf_29 _ (by omega))
    have hfr : ∀ j, (j < i ∨ i + 8 < j) → g_29 j = g j := fun j hj => (hf_29 j (by omega)).trans (hfr j hj)
    exact x_vret X hr hlk hW (⟨⟨h0, n_i___1, n_i___3, n_i___5, n_i___7, by decide⟩, hfr⟩) dX8_put_32

theorem sgabs (t : Int) (cd : Nat) : (t.sign * ((t.natAbs / cd : Nat) : Int)).natAbs = t.natAbs / cd := by
  rw [Int.natAbs_mul]
  by_cases h : t = 0
  · subst h; show 0 * _ = 0 / cd; rw [Nat.zero_mul, Nat.zero_div]
  · rw [Int.natAbs_sign_of_ne_zero h, Nat.one_mul]; rfl

set_option maxHeartbeats 4000000 in
set_option maxRecDepth 100000 in
/-- over -/
theorem c_X8_over (l : Launch) (E : wE) (A : Nat → Nat) (n sz : Nat) (g : Nat → va_E) (i : Nat) (P : Int) (Q f : Nat) (hi : i + 8 < n) (hQ : 0 < Q) (hf : 0 < f) (hf2 : f < 2147483648) (hR : ResV E A g i (rdT P Q) (rdB P Q)) (hQf : Q * f < 10 ^ 54) : Met l yX8_over wsX8_over ({ frames := 2, cells := 0, slots := 0, locals := 100 } : Room) (va_Pc [.ref (A (i)), .int (iI ((f : Int)))] (wPre E A n sz g)) (va_Qv (fun g' => ResV E A g' i (rdT P (Q * f)) (rdB P (Q * f)) ∧ ∀ j, (j < i ∨ i + 8 < j) → g' j = g j) (wAt E A n) (wF A n sz)) 0 0 (wF A n sz) := by
  refine x_met (cc := cX8_over) (maxL := 3) (ret := none) [.ref (A (i)), .int (iI ((f : Int)))] (by decide) rfl (Nat.le_of_ble_eq_true rfl) ?_
  intro p e s m below meth c ls X hr hlk hnm hsz hW hl
  have hl : lv_has ls 3 [(0, .ref (A (i))), (1, .int (iI ((f : Int))))] := hl
  have lk_0 : ∀ w ∈ wsX80, w ∈ wsX8_over := by decide +kernel
  have lk_1 : Cond.fieldLink RX8 10 (TX8 0).1 (TX8 0).2.1 (TX8 0).2.2.1 ∈ wsX8_over := by decide +kernel
  have lk_2 : Cond.fieldLink RX8 16 (TX8 1).1 (TX8 1).2.1 (TX8 1).2.2.1 ∈ wsX8_over := by decide +kernel
  obtain ⟨e1, e2, e3⟩ := rd_over (P := P) (Q := Q) (f := f) hQ hf
  have hle : rdB P Q * (f / Nat.gcd (rdT P Q).natAbs f) < 10 ^ 54 := Nat.lt_of_le_of_lt (Nat.mul_le_mul (rdB_le P Q) (Nat.div_le_self _ _)) hQf
  obtain ⟨t, ht⟩ : ∃ t, t = rdT P Q := ⟨_, rfl⟩
  obtain ⟨b, hb⟩ : ∃ b, b = rdB P Q := ⟨_, rfl⟩
  rw [← ht, ← hb] at hR
  rw [← ht] at e1 e2 hle
  rw [← hb] at e2 e3 hle
  obtain ⟨h0, n_i___1, n_i___3, n_i___5, n_i___7, hb0⟩ := hR
  obtain ⟨cd, hcd⟩ : ∃ cd, cd = Nat.gcd t.natAbs f := ⟨_, rfl⟩
  rw [← hcd] at e1 e2 hle
  have hc0 : 0 < cd := by rw [hcd]; exact Nat.gcd_pos_of_pos_right _ hf
  have hcf : cd ≤ f := by rw [hcd]; exact Nat.gcd_le_right _ hf
  have hsg : t.sign = (rdT P (Q * f)).sign := by rw [ht, rdT_sign P hQ, rdT_sign P (Nat.mul_pos hQ hf)]
  have hfr : ∀ j, (j < i ∨ i + 8 < j) → g j = g j := fun _ _ => rfl
  have hml := Nat.mod_lt t.natAbs hf
  have hfc : f / cd ≤ f := Nat.div_le_self _ _
  have hfc0 := Int.natCast_nonneg (f / cd)
  refine lv_iload_n X.1 X.2.1 dX8_over_0 rfl (lv_at hl 1 rfl) ?_
  refine x_iconst X dX8_over_1 ?_
  refine x_icmp_ge (tgt := 6) X ⟨by omega, by omega⟩ ⟨by decide, by decide⟩ dX8_over_2 (by decide) (fun b_2 => ?_) (fun b_2 => ?_)
  · refine lv_iload_n X.1 X.2.1 dX8_over_6 rfl (lv_at hl 1 rfl) ?_
    refine lv_aload_n X.1 X.2.1 dX8_over_7 rfl (lv_at hl 0 rfl) ?_
    refine x_get (C := RX8) (T := TX8) (N := 5) X hW (by omega) h0 rfl lk_0 0 (by decide) lk_1 rfl dX8_over_8 ?_
    refine lv_iload_n X.1 X.2.1 dX8_over_11 rfl (lv_at hl 1 rfl) ?_
    refine x_ci (x_runV (k := 1) (As := [.int (iI ((f : Int)))]) (rest := [.int (iI ((f : Int)))]) X hW (c_X5_rest l E A n _ g (i + 1) t.natAbs f (by omega) n_i___1 hf hf2) (by omega) n_i___1.2.1 rfl gX8_over_X5_rest rfl rfl rfl (by decide +kernel) ⟨by decide, by decide⟩ rfl hl.1 rfl (Nat.le_of_ble_eq_true rfl) dX8_over_12 ⟨Nat.zero_le _, Nat.zero_le _⟩) hW (fun r_12 g_12 H locs hp_12 hW => ?_)
    obtain ⟨hr_12, he_12⟩ := hp_12
    rw [he_12] at hW
    subst hr_12
    refine x_ci (x_runS (k := 2) (As := [.int (iI ((f : Int))), .int (iI (((t.natAbs % f : Nat) : Int)))]) (rest := []) X hW (c_X8_commonDivisor l E A n _ g f (t.natAbs % f) hf2 hml) gX8_over_X8_commonDivisor rfl rfl rfl (by decide +kernel) ⟨by decide, by decide⟩ rfl hl.1 rfl (Nat.le_of_ble_eq_true rfl) dX8_over_15 ⟨Nat.zero_le _, Nat.zero_le _⟩) hW (fun r_15 g_15 H locs hp_15 hW => ?_)
    obtain ⟨hr_15, he_15⟩ := hp_15
    rw [he_15] at hW
    subst hr_15
    refine x_seti ((cd : Int)) (by rw [hcd, Nat.gcd_comm f, ← Nat.gcd_rec f, Nat.gcd_comm]) ?_
    refine lv_istore_n (lv' := [(2, .int (iI ((cd : Int)))), (0, .ref (A (i))), (1, .int (iI ((f : Int))))]) X.1 X.2.1 dX8_over_18 rfl hl (by decide) rfl (fun ls hl => ?_)
    refine lv_iload_n X.1 X.2.1 dX8_over_19 rfl (lv_at hl 0 rfl) ?_
    refine x_iconst X dX8_over_20 ?_
    refine x_icmp_ge (tgt := 25) X ⟨by omega, by omega⟩ ⟨by decide, by decide⟩ dX8_over_21 (by decide) (fun b_21 => ?_) (fun b_21 => ?_)
    · refine lv_aload_n X.1 X.2.1 dX8_over_25 rfl (lv_at hl 1 rfl) ?_
      refine x_get (C := RX8) (T := TX8) (N := 5) X hW (by omega) h0 rfl lk_0 0 (by decide) lk_1 rfl dX8_over_26 ?_
      refine lv_iload_n X.1 X.2.1 dX8_over_29 rfl (lv_at hl 0 rfl) ?_
      refine x_cv (x_runV (k := 1) (As := [.int (iI ((cd : Int)))]) (rest := []) X hW (c_X5_divide l E A n _ g (i + 1) t.natAbs cd (by omega) n_i___1 hc0 (by omega)) (by omega) n_i___1.2.1 rfl gX8_over_X5_divide rfl rfl rfl (by decide +kernel) ⟨by decide, by decide⟩ rfl hl.1 rfl (Nat.le_of_ble_eq_true rfl) dX8_over_30 ⟨Nat.zero_le _, Nat.zero_le _⟩) hW (fun g_30 H locs hp_30 hW => ?_)
      obtain ⟨nv_30, hf_30⟩ := hp_30
      have h0 : g_30 i = .inr (8, [.ref (A (i + 1)), .ref (A (i + 3)), .ref (A (i + 5)), .ref (A (i + 7)), .int (iI (t.sign))]) := by rw [hf_30 _ (by omega)]; exact h0
      have n_i___3 : NatV E A g_30 (i + 3) b := n_i___3.frame (hf_30 _ (by omega)) (hf_30 _ (by omega))
      have n_i___5 : NatX E A g_30 (i + 5) := n_i___5.frame (hf_30 _ (by omega)) (hf_30 _ (by omega))
      have n_i___7 : NatX E A g_30 (i + 7) := n_i___7.frame (hf_30 _ (by omega)) (hf_30 _ (by omega))
      have n_i___1 : NatV E A g_30 (i + 1) (t.natAbs / cd) := nv_30
      have hfr : ∀ j, (j < i ∨ i + 8 < j) → g_30 j = g j := fun j hj => (hf_30 j (by omega)).trans (hfr j hj)
      refine lv_aload_n X.1 X.2.1 dX8_over_33 rfl (lv_at hl 1 rfl) ?_
      refine x_get (C := RX8) (T := TX8) (N := 5) X hW (by omega) h0 rfl lk_0 1 (by decide) lk_2 rfl dX8_over_34 ?_
      refine lv_iload_n X.1 X.2.1 dX8_over_37 rfl (lv_at hl 2 rfl) ?_
      refine lv_iload_n X.1 X.2.1 dX8_over_38 rfl (lv_at hl 0 rfl) ?_
      refine x_idiv X ⟨by omega, by omega⟩ ⟨by omega, by omega⟩ (by omega) (by omega) dX8_over_39 ?_
      refine x_seti (((f / cd : Nat) : Int)) (by omega) ?_
      refine x_i2l X ⟨by omega, by omega⟩ dX8_over_40 ?_
      refine x_cv (x_runV (k := 1) (As := [.long (lI (((f / cd : Nat) : Int)))]) (rest := []) X hW (c_X5_times l E A n _ g_30 (i + 3) b (f / cd) (by omega) n_i___3 (by omega) hle) (by omega) n_i___3.2.1 rfl gX8_over_X5_times rfl rfl rfl (by decide +kernel) ⟨by decide, by decide⟩ rfl hl.1 rfl (Nat.le_of_ble_eq_true rfl) dX8_over_41 ⟨Nat.zero_le _, Nat.zero_le _⟩) hW (fun g_41 H locs hp_41 hW => ?_)
      obtain ⟨nv_41, hf_41⟩ := hp_41
      have h0 : g_41 i = .inr (8, [.ref (A (i + 1)), .ref (A (i + 3)), .ref (A (i + 5)), .ref (A (i + 7)), .int (iI (t.sign))]) := by rw [hf_41 _ (by omega)]; exact h0
      have n_i___1 : NatV E A g_41 (i + 1) (t.natAbs / cd) := n_i___1.frame (hf_41 _ (by omega)) (hf_41 _ (by omega))
      have n_i___5 : NatX E A g_41 (i + 5) := n_i___5.frame (hf_41 _ (by omega)) (hf_41 _ (by omega))
      have n_i___7 : NatX E A g_41 (i + 7) := n_i___7.frame (hf_41 _ (by omega)) (hf_41 _ (by omega))
      have n_i___3 : NatV E A g_41 (i + 3) (b * (f / cd)) := nv_41
      have hfr : ∀ j, (j < i ∨ i + 8 < j) → g_41 j = g j := fun j hj => (hf_41 j (by omega)).trans (hfr j hj)
      exact x_vret X hr hlk hW (⟨⟨by rw [h0, hsg], by rw [show (rdT P (Q * f)).natAbs = t.natAbs / cd from by rw [e1]; exact sgabs t cd]; exact n_i___1, by rw [e2]; exact n_i___3, n_i___5, n_i___7, by rw [e2]; exact Nat.mul_pos hb0 (Nat.div_pos hcf hc0)⟩, hfr⟩) dX8_over_44
    · exact absurd b_21 (by omega)
  · exact absurd b_2 (by omega)

theorem sg_cmp (P : Int) : (if P < 0 then (-1 : Int) else if P = 0 then 0 else 1) = P.sign := by
  by_cases h : P < 0
  · rw [if_pos h, Int.sign_eq_neg_one_of_neg h]
  · rw [if_neg h]
    by_cases h2 : P = 0
    · rw [if_pos h2, h2]; rfl
    · rw [if_neg h2, Int.sign_eq_one_of_pos (by omega)]
theorem rdT_absabs (P : Int) (Q : Nat) : (rdT P Q).natAbs = (rdT ((P.natAbs : Nat) : Int) Q).natAbs := by
  unfold rdT
  rw [sgabs]
  exact (sgabs ((P.natAbs : Nat) : Int) _).symm

set_option maxHeartbeats 4000000 in
set_option maxRecDepth 100000 in
/-- putSmall -/
theorem c_X8_putSmall (l : Launch) (E : wE) (A : Nat → Nat) (n sz : Nat) (g : Nat → va_E) (i : Nat) (P : Int) (Q : Nat) (hi : i + 8 < n) (hP : I32 P) (hQ : 0 < Q) (hQ2 : Q < 2147483648) (hR : ResX E A g i) : Met l yX8_putSmall wsX8_putSmall ({ frames := 4, cells := 0, slots := 0, locals := 180 } : Room) (va_Pc [.ref (A (i)), .int (iI (P)), .int (iI ((Q : Int)))] (wPre E A n sz g)) (va_Qv (fun g' => ResV E A g' i (rdT P Q) (rdB P Q) ∧ ∀ j, (j < i ∨ i + 8 < j) → g' j = g j) (wAt E A n) (wF A n sz)) 0 0 (wF A n sz) := by
  refine x_met (cc := cX8_putSmall) (maxL := 3) (ret := none) [.ref (A (i)), .int (iI (P)), .int (iI ((Q : Int)))] (by decide) rfl (Nat.le_of_ble_eq_true rfl) ?_
  intro p e s m below meth c ls X hr hlk hnm hsz hW hl
  have hl : lv_has ls 3 [(0, .ref (A (i))), (1, .int (iI (P))), (2, .int (iI ((Q : Int))))] := hl
  have lk_0 : ∀ w ∈ wsX80, w ∈ wsX8_putSmall := by decide +kernel
  have lk_1 : Cond.fieldLink RX8 19 (TX8 2).1 (TX8 2).2.1 (TX8 2).2.2.1 ∈ wsX8_putSmall := by decide +kernel
  have lk_2 : Cond.methodLink RX8 41 Lib.MathLoose.abs_long.x ∈ wsX8_putSmall := by decide +kernel
  have lk_3 : Cond.static Lib.MathLoose.abs_long.x ∈ wsX8_putSmall := by decide +kernel
  have lk_4 : Cond.initialized "java/lang/Math" ∈ wsX8_putSmall := by decide +kernel
  have lk_5 : Cond.code Lib.MathLoose.abs_long.x Lib.MathLoose.abs_long.code 2 (some .long) ∈ wsX8_putSmall := by decide +kernel
  have lk_6 : Cond.fieldLink RX8 25 (TX8 4).1 (TX8 4).2.1 (TX8 4).2.2.1 ∈ wsX8_putSmall := by decide +kernel
  have hP1 := hP.1
  have hP2 := hP.2
  obtain ⟨⟨z, h0⟩, n_i___1, n_i___3, n_i___5, n_i___7⟩ := hR
  have hfr : ∀ j, (j < i ∨ i + 8 < j) → g j = g j := fun _ _ => rfl
  refine lv_aload_n X.1 X.2.1 dX8_putSmall_0 rfl (lv_at hl 0 rfl) ?_
  refine x_get (C := RX8) (T := TX8) (N := 5) X hW (by omega) h0 rfl lk_0 2 (by decide) lk_1 rfl dX8_putSmall_1 ?_
  refine lv_iload_n X.1 X.2.1 dX8_putSmall_4 rfl (lv_at hl 1 rfl) ?_
  refine x_i2l X hP dX8_putSmall_5 ?_
  refine x_mabsl X hl.1 ⟨by omega, by omega⟩ lk_2 lk_3 lk_4 lk_5 (by decide) (Nat.le_of_ble_eq_true rfl) (Nat.zero_le _) (Nat.zero_le _) dX8_putSmall_6 ?_
  refine x_cv (x_runV (k := 1) (As := [.long (lI (((P).natAbs : Nat)))]) (rest := []) X hW (c_X5_put l E A n _ g (i + 5) P.natAbs (by omega) n_i___5 (by omega)) (by omega) n_i___5.1 rfl gX8_putSmall_X5_put rfl rfl rfl (by decide +kernel) ⟨by decide, by decide⟩ rfl hl.1 rfl (Nat.le_of_ble_eq_true rfl) dX8_putSmall_9 ⟨Nat.zero_le _, Nat.zero_le _⟩) hW (fun g_9 H locs hp_9 hW => ?_)
  obtain ⟨nv_9, hf_9⟩ := hp_9
  have h0 : g_9 i = .inr (8, [.ref (A (i + 1)), .ref (A (i + 3)), .ref (A (i + 5)), .ref (A (i + 7)), .int (iI (z))]) := by rw [hf_9 _ (by omega)]; exact h0
  have n_i___1 : NatX E A g_9 (i + 1) := n_i___1.frame (hf_9 _ (by omega)) (hf_9 _ (by omega))
  have n_i___3 : NatX E A g_9 (i + 3) := n_i___3.frame (hf_9 _ (by omega)) (hf_9 _ (by omega))
  have n_i___7 : NatX E A g_9 (i + 7) := n_i___7.frame (hf_9 _ (by omega)) (hf_9 _ (by omega))
  have n_i___5 : NatV E A g_9 (i + 5) P.natAbs := nv_9
  have hfr : ∀ j, (j < i ∨ i + 8 < j) → g_9 j = g j := fun j hj => (hf_9 j (by omega)).trans (hfr j hj)
  refine lv_aload_n X.1 X.2.1 dX8_putSmall_12 rfl (lv_at hl 0 rfl) ?_
  refine lv_aload_n X.1 X.2.1 dX8_putSmall_13 rfl (lv_at hl 0 rfl) ?_
  refine x_get (C := RX8) (T := TX8) (N := 5) X hW (by omega) h0 rfl lk_0 2 (by decide) lk_1 rfl dX8_putSmall_14 ?_
  refine x_cv (x_runV (k := 1) (As := [.ref (A (i + 5))]) (rest := []) X hW (c_X8_put l E A n _ g_9 i (i + 5) P.natAbs hi (by omega) (by omega) ⟨⟨_, h0⟩, n_i___1, n_i___3, n_i___5.any, n_i___7⟩ n_i___5) (by omega) h0 rfl gX8_putSmall_X8_put rfl rfl rfl (by decide +kernel) ⟨by decide, by decide⟩ rfl hl.1 rfl (Nat.le_of_ble_eq_true rfl) dX8_putSmall_17 ⟨Nat.zero_le _, Nat.zero_le _⟩) hW (fun g_17 H locs hp_17 hW => ?_)
  obtain ⟨hR, hf_17⟩ := hp_17
  have hfr : ∀ j, (j < i ∨ i + 8 < j) → g_17 j = g j := fun j hj => (hf_17 j hj).trans (hfr j hj)
  have hRr := hR
  obtain ⟨h0, n_i___1, n_i___3, n_i___5, n_i___7, hb0⟩ := hR
  refine lv_aload_n X.1 X.2.1 dX8_putSmall_20 rfl (lv_at hl 0 rfl) ?_
  refine lv_iload_n X.1 X.2.1 dX8_putSmall_21 rfl (lv_at hl 2 rfl) ?_
  refine x_cv (x_runV (k := 1) (As := [.int (iI ((Q : Int)))]) (rest := []) X hW (c_X8_over l E A n _ g_17 i ((P.natAbs : Nat) : Int) 1 Q hi (by decide) hQ hQ2 (by rw [rdT_1, rdB_1]; exact hRr) (by omega)) (by omega) h0 rfl gX8_putSmall_X8_over rfl rfl rfl (by decide +kernel) ⟨by decide, by decide⟩ rfl hl.1 rfl (Nat.le_of_ble_eq_true rfl) dX8_putSmall_22 ⟨Nat.zero_le _, Nat.zero_le _⟩) hW (fun g_22 H locs hp_22 hW => ?_)
  obtain ⟨hR, hf_22⟩ := hp_22
  have hfr : ∀ j, (j < i ∨ i + 8 < j) → g_22 j = g j := fun j hj => (hf_22 j hj).trans (hfr j hj)
  have hRr := hR
  obtain ⟨h0, n_i___1, n_i___3, n_i___5, n_i___7, hb0⟩ := hR
  refine lv_aload_n X.1 X.2.1 dX8_putSmall_25 rfl (lv_at hl 0 rfl) ?_
  refine lv_iload_n X.1 X.2.1 dX8_putSmall_26 rfl (lv_at hl 1 rfl) ?_
  refine x_iconst X dX8_putSmall_27 ?_
  refine x_ci (x_runS (k := 2) (As := [.int (iI (P)), .int (iI (0))]) (rest := [.ref (A (i))]) X hW (c_J6_compare_7cf53 l E A n _ g_22 P 0 hP I32_0) gX8_putSmall_J6_compare_7cf53 rfl rfl rfl (by decide +kernel) ⟨by decide, by decide⟩ rfl hl.1 rfl (Nat.le_of_ble_eq_true rfl) dX8_putSmall_28 ⟨Nat.zero_le _, Nat.zero_le _⟩) hW (fun r_28 g_28 H locs hp_28 hW => ?_)
  obtain ⟨hr_28, he_28⟩ := hp_28
  rw [he_28] at hW
  subst hr_28
  refine x_seti ((rdT P Q).sign) (by rw [rdT_sign P hQ]; exact sg_cmp P) ?_
  refine x_put (C := RX8) (T := TX8) (N := 5) X hW (by omega) h0 rfl lk_0 tyX8 tyX8_ok nmX8 4 (by decide) lk_6 rfl rfl rfl (Nat.le_of_ble_eq_true rfl) dX8_putSmall_31 (fun g_31 H locs hg_31 hW => ?_)
  have h0 : g_31 i = .inr (8, [.ref (A (i + 1)), .ref (A (i + 3)), .ref (A (i + 5)), .ref (A (i + 7)), .int (iI ((rdT P Q).sign))]) := by rw [hg_31]; exact va_up_self _ _ _
  have hf_31 : ∀ j, j ≠ i → g_31 j = g_22 j := fun j hj => by rw [hg_31]; exact va_up_ne _ _ hj
  have n_i___1 : NatV E A g_31 (i + 1) ((rdT ((P.natAbs : Nat) : Int) (1 * Q)).natAbs) := n_i___1.frame (hf_31 _ (by omega)) (hf_31 _ (by omega))
  have n_i___3 : NatV E A g_31 (i + 3) (rdB ((P.natAbs : Nat) : Int) (1 * Q)) := n_i___3.frame (hf_31 _ (by omega)) (hf_31 _ (by omega))
  have n_i___5 : NatX E A g_31 (i + 5) := n_i___5.frame (hf_31 _ (by omega)) (hf_31 _ (by omega))
  have n_i___7 : NatX E A g_31 (i + 7) := n_i___7.frame (hf_31 _ (by omega)) (hf_31 _ (by omega))
  have hfr : ∀ j, (j < i ∨ i + 8 < j) → g_31 j = g j := fun j hj => (hf_31 j (by omega)).trans (hfr j hj)
  exact x_vret X hr hlk hW (⟨⟨h0, by rw [show (rdT P Q).natAbs = (rdT ((P.natAbs : Nat) : Int) (1 * Q)).natAbs from by rw [Nat.one_mul]; exact rdT_absabs P Q]; exact n_i___1, by rw [show rdB P Q = rdB ((P.natAbs : Nat) : Int) (1 * Q) from by rw [Nat.one_mul]; rfl]; exact n_i___3, n_i___5, n_i___7, by rw [show rdB P Q = rdB ((P.natAbs : Nat) : Int) (1 * Q) from by rw [Nat.one_mul]; rfl]; exact hb0⟩, hfr⟩) dX8_putSmall_34

set_option maxHeartbeats 4000000 in
set_option maxRecDepth 100000 in
/-- sign -/
theorem c_X8_sign (l : Launch) (E : wE) (A : Nat → Nat) (n sz : Nat) (g : Nat → va_E) (i : Nat) (t : Int) (b : Nat) (hi : i + 8 < n) (hR : ResV E A g i t b) : Met l yX8_sign wsX8_sign ({ frames := 1, cells := 0, slots := 0, locals := 30 } : Room) (va_Pc [.ref (A (i))] (wPre E A n sz g)) (va_Qi (fun r g' => r = iI t.sign ∧ g' = g) (wAt E A n) (wF A n sz)) 0 0 (wF A n sz) := by
  refine x_met (cc := cX8_sign) (maxL := 1) (ret := (some .int)) [.ref (A (i))] (by decide) rfl (Nat.le_of_ble_eq_true rfl) ?_
  intro p e s m below meth c ls X hr hlk hnm hsz hW hl
  have hl : lv_has ls 1 [(0, .ref (A (i)))] := hl
  have lk_0 : ∀ w ∈ wsX80, w ∈ wsX8_sign := by decide +kernel
  have lk_1 : Cond.fieldLink RX8 25 (TX8 4).1 (TX8 4).2.1 (TX8 4).2.2.1 ∈ wsX8_sign := by decide +kernel
  have hRr := hR
  obtain ⟨h0, n_i___1, n_i___3, n_i___5, n_i___7, hb0⟩ := hR
  refine lv_aload_n X.1 X.2.1 dX8_sign_0 rfl (lv_at hl 0 rfl) ?_
  refine x_get (C := RX8) (T := TX8) (N := 5) X hW (by omega) h0 rfl lk_0 4 (by decide) lk_1 rfl dX8_sign_1 ?_
  exact x_iret X hr hlk hW (⟨rfl, rfl⟩) dX8_sign_4

set_option maxHeartbeats 4000000 in
set_option maxRecDepth 100000 in
/-- digits -/
theorem c_X8_digits (l : Launch) (E : wE) (A : Nat → Nat) (n sz : Nat) (g : Nat → va_E) (i : Nat) (t : Int) (b : Nat) (w : Int) (hi : i + 8 < n) (hw : I32 w) (hR : ResV E A g i t b) : Met l yX8_digits wsX8_digits ({ frames := 1, cells := 0, slots := 0, locals := 30 } : Room) (va_Pc [.ref (A (i)), .int (iI (w))] (wPre E A n sz g)) (va_Qr (fun u => u.1 = (if w = 0 then i + 1 else i + 3) ∧ u.2 = g) (wAtR E A n) (wF A n sz)) 0 0 (wF A n sz) := by
  refine x_met (cc := cX8_digits) (maxL := 2) (ret := (some (.object "ChooseOnce$Natural"))) [.ref (A (i)), .int (iI (w))] (by decide) rfl (Nat.le_of_ble_eq_true rfl) ?_
  intro p e s m below meth c ls X hr hlk hnm hsz hW hl
  have hl : lv_has ls 2 [(0, .ref (A (i))), (1, .int (iI (w)))] := hl
  have lk_0 : ∀ w ∈ wsX80, w ∈ wsX8_digits := by decide +kernel
  have lk_1 : Cond.fieldLink RX8 10 (TX8 0).1 (TX8 0).2.1 (TX8 0).2.2.1 ∈ wsX8_digits := by decide +kernel
  have lk_2 : Cond.fieldLink RX8 16 (TX8 1).1 (TX8 1).2.1 (TX8 1).2.2.1 ∈ wsX8_digits := by decide +kernel
  have hRr := hR
  obtain ⟨h0, n_i___1, n_i___3, n_i___5, n_i___7, hb0⟩ := hR
  refine lv_iload_n X.1 X.2.1 dX8_digits_0 rfl (lv_at hl 1 rfl) ?_
  refine x_if_eq (tgt := 11) X hw dX8_digits_1 (by decide) (fun b_1 => ?_) (fun b_1 => ?_)
  · refine lv_aload_n X.1 X.2.1 dX8_digits_11 rfl (lv_at hl 0 rfl) ?_
    refine x_get (C := RX8) (T := TX8) (N := 5) X hW (by omega) h0 rfl lk_0 0 (by decide) lk_1 rfl dX8_digits_12 ?_
    exact x_aret (j := i + 1) X hr hlk hW (⟨by first | rw [if_pos b_1] | rw [if_neg b_1], rfl⟩) dX8_digits_15
  · refine lv_aload_n X.1 X.2.1 dX8_digits_4 rfl (lv_at hl 0 rfl) ?_
    refine x_get (C := RX8) (T := TX8) (N := 5) X hW (by omega) h0 rfl lk_0 1 (by decide) lk_2 rfl dX8_digits_5 ?_
    refine lv_goto (tgt := 15) X.1 X.2.1 dX8_digits_8 (by decide) ?_
    exact x_aret (j := i + 3) X hr hlk hW (⟨by first | rw [if_pos b_1] | rw [if_neg b_1], rfl⟩) dX8_digits_15

theorem sg_le (t : Int) : -1 ≤ t.sign ∧ t.sign ≤ 1 := by
  rcases Int.sign_trichotomy t with h | h | h <;> omega
theorem ag_sign {t a : Int} {b q : Nat} (hb : 0 < b) (hq : 0 < q) (h : t.sign ≠ a.sign) : (if t * (q : Int) < a * (b : Int) then (-1 : Int) else if t * (q : Int) = a * (b : Int) then 0 else 1) = if t.sign < a.sign then -1 else if t.sign = a.sign then 0 else 1 := by
  have e1 : (t * (q : Int)).sign = t.sign := by rw [Int.sign_mul, Int.sign_eq_one_of_pos (a := (q : Int)) (by omega), Int.mul_one]
  have e2 : (a * (b : Int)).sign = a.sign := by rw [Int.sign_mul, Int.sign_eq_one_of_pos (a := (b : Int)) (by omega), Int.mul_one]
  generalize t * (q : Int) = x at *
  generalize a * (b : Int) = y at *
  have h' : x.sign ≠ y.sign := by rw [e1, e2]; exact h
  rw [← e1, ← e2]
  clear e1 e2 h
  rcases Int.lt_trichotomy x 0 with hx | hx | hx <;> rcases Int.lt_trichotomy y 0 with hy | hy | hy
  all_goals (try rw [Int.sign_eq_neg_one_of_neg hx] at *); (try rw [Int.sign_eq_neg_one_of_neg hy] at *); (try rw [Int.sign_eq_one_of_pos hx] at *); (try rw [Int.sign_eq_one_of_pos hy] at *)
  all_goals (try rw [hx] at *); (try rw [hy] at *); (try rw [Int.sign_zero] at *)
  all_goals (repeat (first | omega | split))
theorem ag_same {t a : Int} {b q : Nat} (h : t.sign = a.sign) : (if t * (q : Int) < a * (b : Int) then (-1 : Int) else if t * (q : Int) = a * (b : Int) then 0 else 1) = t.sign * (if t.natAbs * q < b * a.natAbs then -1 else if t.natAbs * q = b * a.natAbs then 0 else 1) := by
  have ht : t = t.sign * (t.natAbs : Int) := (Int.sign_mul_natAbs t).symm
  have ha : a = t.sign * (a.natAbs : Int) := by rw [h]; exact (Int.sign_mul_natAbs a).symm
  have e1 : t * (q : Int) = t.sign * ((t.natAbs * q : Nat) : Int) := by rw [Int.natCast_mul, ← Int.mul_assoc, ← ht]
  have e2 : a * (b : Int) = t.sign * ((b * a.natAbs : Nat) : Int) := by rw [Nat.mul_comm, Int.natCast_mul, ← Int.mul_assoc, ← ha]
  rw [e1, e2]
  generalize t.natAbs * q = x
  generalize b * a.natAbs = y
  rcases Int.sign_trichotomy t with h1 | h1 | h1 <;> rw [h1]
  all_goals (repeat (first | omega | split))

set_option maxHeartbeats 4000000 in
set_option maxRecDepth 100000 in
/-- against -/
theorem c_X8_against (l : Launch) (E : wE) (A : Nat → Nat) (n sz : Nat) (g : Nat → va_E) (i : Nat) (t : Int) (b : Nat) (a : Int) (q : Nat) (hi : i + 8 < n) (ha : I32 a) (hq : 0 < q) (hq2 : q < 2147483648) (hR : ResV E A g i t b) (hb1 : t.natAbs * q < 10 ^ 54) (hb2 : b * a.natAbs < 10 ^ 54) : Met l yX8_against wsX8_against ({ frames := 3, cells := 0, slots := 0, locals := 140 } : Room) (va_Pc [.ref (A (i)), .int (iI (a)), .int (iI ((q : Int)))] (wPre E A n sz g)) (va_Qi (fun r g' => r = iI (if t * (q : Int) < a * (b : Int) then -1 else if t * (q : Int) = a * (b : Int) then 0 else 1) ∧ ResV E A g' i t b ∧ ∀ j, (j < i ∨ i + 8 < j) → g' j = g j) (wAt E A n) (wF A n sz)) 0 0 (wF A n sz) := by
  refine x_met (cc := cX8_against) (maxL := 4) (ret := (some .int)) [.ref (A (i)), .int (iI (a)), .int (iI ((q : Int)))] (by decide) rfl (Nat.le_of_ble_eq_true rfl) ?_
  intro p e s m below meth c ls X hr hlk hnm hsz hW hl
  have hl : lv_has ls 4 [(0, .ref (A (i))), (1, .int (iI (a))), (2, .int (iI ((q : Int))))] := hl
  have lk_0 : ∀ w ∈ wsX80, w ∈ wsX8_against := by decide +kernel
  have lk_1 : Cond.fieldLink RX8 25 (TX8 4).1 (TX8 4).2.1 (TX8 4).2.2.1 ∈ wsX8_against := by decide +kernel
  have lk_2 : Cond.fieldLink RX8 19 (TX8 2).1 (TX8 2).2.1 (TX8 2).2.2.1 ∈ wsX8_against := by decide +kernel
  have lk_3 : Cond.fieldLink RX8 10 (TX8 0).1 (TX8 0).2.1 (TX8 0).2.2.1 ∈ wsX8_against := by decide +kernel
  have lk_4 : Cond.fieldLink RX8 22 (TX8 3).1 (TX8 3).2.1 (TX8 3).2.2.1 ∈ wsX8_against := by decide +kernel
  have lk_5 : Cond.fieldLink RX8 16 (TX8 1).1 (TX8 1).2.1 (TX8 1).2.2.1 ∈ wsX8_against := by decide +kernel
  have lk_6 : Cond.methodLink RX8 41 Lib.MathLoose.abs_long.x ∈ wsX8_against := by decide +kernel
  have lk_7 : Cond.static Lib.MathLoose.abs_long.x ∈ wsX8_against := by decide +kernel
  have lk_8 : Cond.initialized "java/lang/Math" ∈ wsX8_against := by decide +kernel
  have lk_9 : Cond.code Lib.MathLoose.abs_long.x Lib.MathLoose.abs_long.code 2 (some .long) ∈ wsX8_against := by decide +kernel
  have hRr := hR
  obtain ⟨h0, n_i___1, n_i___3, n_i___5, n_i___7, hb0⟩ := hR
  have hfr : ∀ j, (j < i ∨ i + 8 < j) → g j = g j := fun _ _ => rfl
  have hs1 := sg_le t
  have hs2 := sg_le a
  have ha1 := ha.1
  have ha2 := ha.2
  refine lv_iload_n X.1 X.2.1 dX8_against_0 rfl (lv_at hl 1 rfl) ?_
  refine x_iconst X dX8_against_1 ?_
  refine x_ci (x_runS (k := 2) (As := [.int (iI (a)), .int (iI (0))]) (rest := []) X hW (c_J6_compare_7cf53 l E A n _ g a 0 ha I32_0) gX8_against_J6_compare_7cf53 rfl rfl rfl (by decide +kernel) ⟨by decide, by decide⟩ rfl hl.1 rfl (Nat.le_of_ble_eq_true rfl) dX8_against_2 ⟨Nat.zero_le _, Nat.zero_le _⟩) hW (fun r_2 g_2 H locs hp_2 hW => ?_)
  obtain ⟨hr_2, he_2⟩ := hp_2
  rw [he_2] at hW
  subst hr_2
  refine x_seti a.sign (sg_cmp a) ?_
  refine lv_istore_n (lv' := [(3, .int (iI (a.sign))), (0, .ref (A (i))), (1, .int (iI (a))), (2, .int (iI ((q : Int))))]) X.1 X.2.1 dX8_against_5 rfl hl (by decide) rfl (fun ls hl => ?_)
  refine lv_aload_n X.1 X.2.1 dX8_against_6 rfl (lv_at hl 1 rfl) ?_
  refine x_get (C := RX8) (T := TX8) (N := 5) X hW (by omega) h0 rfl lk_0 4 (by decide) lk_1 rfl dX8_against_7 ?_
  refine lv_iload_n X.1 X.2.1 dX8_against_10 rfl (lv_at hl 0 rfl) ?_
  refine x_icmp_eq (tgt := 23) X ⟨by omega, by omega⟩ ⟨by omega, by omega⟩ dX8_against_11 (by decide) (fun b_11 => ?_) (fun b_11 => ?_)
  · refine lv_aload_n X.1 X.2.1 dX8_against_23 rfl (lv_at hl 1 rfl) ?_
    refine x_get (C := RX8) (T := TX8) (N := 5) X hW (by omega) h0 rfl lk_0 2 (by decide) lk_2 rfl dX8_against_24 ?_
    refine lv_aload_n X.1 X.2.1 dX8_against_27 rfl (lv_at hl 1 rfl) ?_
    refine x_get (C := RX8) (T := TX8) (N := 5) X hW (by omega) h0 rfl lk_0 0 (by decide) lk_3 rfl dX8_against_28 ?_
    refine x_cv (x_runV (k := 1) (As := [.ref (A (i + 1))]) (rest := []) X hW (c_X5_copy l E A n _ g (i + 5) (i + 1) t.natAbs (by omega) (by omega) (by omega) (by omega) (by omega) n_i___5 n_i___1) (by omega) n_i___5.1 rfl gX8_against_X5_copy rfl rfl rfl (by decide +kernel) ⟨by decide, by decide⟩ rfl hl.1 rfl (Nat.le_of_ble_eq_true rfl) dX8_against_31 ⟨Nat.zero_le _, Nat.zero_le _⟩) hW (fun g_31 H locs hp_31 hW => ?_)
    obtain ⟨nv_31, hf_31⟩ := hp_31
    have h0 : g_31 i = .inr (8, [.ref (A (i + 1)), .ref (A (i + 3)), .ref (A (i + 5)), .ref (A (i + 7)), .int (iI (t.sign))]) := by rw [hf_31 _ (by omega)]; exact h0
    have n_i___1 : NatV E A g_31 (i + 1) t.natAbs := n_i___1.frame (hf_31 _ (by omega)) (hf_31 _ (by omega))
    have n_i___3 : NatV E A g_31 (i + 3) b := n_i___3.frame (hf_31 _ (by omega)) (hf_31 _ (by omega))
    have n_i___7 : NatX E A g_31 (i + 7) := n_i___7.frame (hf_31 _ (by omega)) (hf_31 _ (by omega))
    have n_i___5 : NatV E A g_31 (i + 5) t.natAbs := nv_31
    have hfr : ∀ j, (j < i ∨ i + 8 < j) → g_31 j = g j := fun j hj => (hf_31 j (by omega)).trans (hfr j hj)
    refine lv_aload_n X.1 X.2.1 dX8_against_34 rfl (lv_at hl 1 rfl) ?_
    refine x_get (C := RX8) (T := TX8) (N := 5) X hW (by omega) h0 rfl lk_0 2 (by decide) lk_2 rfl dX8_against_35 ?_
    refine lv_iload_n X.1 X.2.1 dX8_against_38 rfl (lv_at hl 3 rfl) ?_
    refine x_i2l X ⟨by omega, by omega⟩ dX8_against_39 ?_
    refine x_cv (x_runV (k := 1) (As := [.long (lI ((q : Int)))]) (rest := []) X hW (c_X5_times l E A n _ g_31 (i + 5) t.natAbs q (by omega) n_i___5 (by omega) hb1) (by omega) n_i___5.2.1 rfl gX8_against_X5_times rfl rfl rfl (by decide +kernel) ⟨by decide, by decide⟩ rfl hl.1 rfl (Nat.le_of_ble_eq_true rfl) dX8_against_40 ⟨Nat.zero_le _, Nat.zero_le _⟩) hW (fun g_40 H locs hp_40 hW => ?_)
    obtain ⟨nv_40, hf_40⟩ := hp_40
    have h0 : g_40 i = .inr (8, [.ref (A (i + 1)), .ref (A (i + 3)), .ref (A (i + 5)), .ref (A (i + 7)), .int (iI (t.sign))]) := by rw [hf_40 _ (by omega)]; exact h0
    have n_i___1 : NatV E A g_40 (i + 1) t.natAbs := n_i___1.frame (hf_40 _ (by omega)) (hf_40 _ (by omega))
    have n_i___3 : NatV E A g_40 (i + 3) b := n_i___3.frame (hf_40 _ (by omega)) (hf_40 _ (by omega))
    have n_i___7 : NatX E A g_40 (i + 7) := n_i___7.frame (hf_40 _ (by omega)) (hf_40 _ (by omega))
    have n_i___5 : NatV E A g_40 (i + 5) (t.natAbs * q) := nv_40
    have hfr : ∀ j, (j < i ∨ i + 8 < j) → g_40 j = g j := fun j hj => (hf_40 j (by omega)).trans (hfr j hj)
    refine lv_aload_n X.1 X.2.1 dX8_against_43 rfl (lv_at hl 1 rfl) ?_
    refine x_get (C := RX8) (T := TX8) (N := 5) X hW (by omega) h0 rfl lk_0 3 (by decide) lk_4 rfl dX8_against_44 ?_
    refine lv_aload_n X.1 X.2.1 dX8_against_47 rfl (lv_at hl 1 rfl) ?_
    refine x_get (C := RX8) (T := TX8) (N := 5) X hW (by omega) h0 rfl lk_0 1 (by decide) lk_5 rfl dX8_against_48 ?_
    refine x_cv (x_runV (k := 1) (As := [.ref (A (i + 3))]) (rest := []) X hW (c_X5_copy l E A n _ g_40 (i + 7) (i + 3) b (by omega) (by omega) (by omega) (by omega) (by omega) n_i___7 n_i___3) (by omega) n_i___7.1 rfl gX8_against_X5_copy rfl rfl rfl (by decide +kernel) ⟨by decide, by decide⟩ rfl hl.1 rfl (Nat.le_of_ble_eq_true rfl) dX8_against_51 ⟨Nat.zero_le _, Nat.zero_le _⟩) hW (fun g_51 H locs hp_51 hW => ?_)
    obtain ⟨nv_51, hf_51⟩ := hp_51
    have h0 : g_51 i = .inr (8, [.ref (A (i + 1)), .ref (A (i + 3)), .ref (A (i + 5)), .ref (A (i + 7)), .int (iI (t.sign))]) := by rw [hf_51 _ (by omega)]; exact h0
    have n_i___1 : NatV E A g_51 (i + 1) t.natAbs := n_i___1.frame (hf_51 _ (by omega)) (hf_51 _ (by omega))
    have n_i___3 : NatV E A g_51 (i + 3) b := n_i___3.frame (hf_51 _ (by omega)) (hf_51 _ (by omega))
    have n_i___5 : NatV E A g_51 (i + 5) (t.natAbs * q) := n_i___5.frame (hf_51 _ (by omega)) (hf_51 _ (by omega))
    have n_i___7 : NatV E A g_51 (i + 7) b := nv_51
    have hfr : ∀ j, (j < i ∨ i + 8 < j) → g_51 j = g j := fun j hj => (hf_51 j (by omega)).trans (hfr j hj)
    refine lv_aload_n X.1 X.2.1 dX8_against_54 rfl (lv_at hl 1 rfl) ?_
    refine x_get (C := RX8) (T := TX8) (N := 5) X hW (by omega) h0 rfl lk_0 3 (by decide) lk_4 rfl dX8_against_55 ?_
    refine lv_iload_n X.1 X.2.1 dX8_against_58 rfl (lv_at hl 2 rfl) ?_
    refine x_i2l X ha dX8_against_59 ?_
    refine x_mabsl X hl.1 ⟨by omega, by omega⟩ lk_6 lk_7 lk_8 lk_9 (by decide) (Nat.le_of_ble_eq_true rfl) (Nat.zero_le _) (Nat.zero_le _) dX8_against_60 ?_
    refine x_cv (x_runV (k := 1) (As := [.long (lI (((a).natAbs : Nat)))]) (rest := []) X hW (c_X5_times l E A n _ g_51 (i + 7) b a.natAbs (by omega) n_i___7 (by omega) hb2) (by omega) n_i___7.2.1 rfl gX8_against_X5_times rfl rfl rfl (by decide +kernel) ⟨by decide, by decide⟩ rfl hl.1 rfl (Nat.le_of_ble_eq_true rfl) dX8_against_63 ⟨Nat.zero_le _, Nat.zero_le _⟩) hW (fun g_63 H locs hp_63 hW => ?_)
    obtain ⟨nv_63, hf_63⟩ := hp_63
    have h0 : g_63 i = .inr (8, [.ref (A (i + 1)), .ref (A (i + 3)), .ref (A (i + 5)), .ref (A (i + 7)), .int (iI (t.sign))]) := by rw [hf_63 _ (by omega)]; exact h0
    have n_i___1 : NatV E A g_63 (i + 1) t.natAbs := n_i___1.frame (hf_63 _ (by omega)) (hf_63 _ (by omega))
    have n_i___3 : NatV E A g_63 (i + 3) b := n_i___3.frame (hf_63 _ (by omega)) (hf_63 _ (by omega))
    have n_i___5 : NatV E A g_63 (i + 5) (t.natAbs * q) := n_i___5.frame (hf_63 _ (by omega)) (hf_63 _ (by omega))
    have n_i___7 : NatV E A g_63 (i + 7) (b * a.natAbs) := nv_63
    have hfr : ∀ j, (j < i ∨ i + 8 < j) → g_63 j = g j := fun j hj => (hf_63 j (by omega)).trans (hfr j hj)
    refine lv_aload_n X.1 X.2.1 dX8_against_66 rfl (lv_at hl 1 rfl) ?_
    refine x_get (C := RX8) (T := TX8) (N := 5) X hW (by omega) h0 rfl lk_0 4 (by decide) lk_1 rfl dX8_against_67 ?_
    refine lv_aload_n X.1 X.2.1 dX8_against_70 rfl (lv_at hl 1 rfl) ?_
    refine x_get (C := RX8) (T := TX8) (N := 5) X hW (by omega) h0 rfl lk_0 2 (by decide) lk_2 rfl dX8_against_71 ?_
    refine lv_aload_n X.1 X.2.1 dX8_against_74 rfl (lv_at hl 1 rfl) ?_
    refine x_get (C := RX8) (T := TX8) (N := 5) X hW (by omega) h0 rfl lk_0 3 (by decide) lk_4 rfl dX8_against_75 ?_
    refine x_ci (x_runV (k := 1) (As := [.ref (A (i + 7))]) (rest := [.int (iI (t.sign))]) X hW (c_X5_against l E A n _ g_63 (i + 5) (i + 7) (t.natAbs * q) (b * a.natAbs) (by omega) (by omega) n_i___5 n_i___7) (by omega) n_i___5.2.1 rfl gX8_against_X5_against rfl rfl rfl (by decide +kernel) ⟨by decide, by decide⟩ rfl hl.1 rfl (Nat.le_of_ble_eq_true rfl) dX8_against_78 ⟨Nat.zero_le _, Nat.zero_le _⟩) hW (fun r_78 g_78 H locs hp_78 hW => ?_)
    obtain ⟨hr_78, he_78⟩ := hp_78
    rw [he_78] at hW
    subst hr_78
    refine x_imul X dX8_against_81 ?_
    exact x_iret X hr hlk hW (⟨by rw [ag_same b_11], ⟨h0, n_i___1, n_i___3, n_i___5.any, n_i___7.any, hb0⟩, hfr⟩) dX8_against_82
  · refine lv_aload_n X.1 X.2.1 dX8_against_14 rfl (lv_at hl 1 rfl) ?_
    refine x_get (C := RX8) (T := TX8) (N := 5) X hW (by omega) h0 rfl lk_0 4 (by decide) lk_1 rfl dX8_against_15 ?_
    refine lv_iload_n X.1 X.2.1 dX8_against_18 rfl (lv_at hl 0 rfl) ?_
    refine x_ci (x_runS (k := 2) (As := [.int (iI (t.sign)), .int (iI (a.sign))]) (rest := []) X hW (c_J6_compare_7cf53 l E A n _ g t.sign a.sign ⟨by omega, by omega⟩ ⟨by omega, by omega⟩) gX8_against_J6_compare_7cf53 rfl rfl rfl (by decide +kernel) ⟨by decide, by decide⟩ rfl hl.1 rfl (Nat.le_of_ble_eq_true rfl) dX8_against_19 ⟨Nat.zero_le _, Nat.zero_le _⟩) hW (fun r_19 g_19 H locs hp_19 hW => ?_)
    obtain ⟨hr_19, he_19⟩ := hp_19
    rw [he_19] at hW
    subst hr_19
    exact x_iret X hr hlk hW (⟨by rw [ag_sign hb0 hq b_11], hRr, fun _ _ => rfl⟩) dX8_against_22
