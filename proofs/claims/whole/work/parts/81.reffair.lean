/-! ===== the fair bar ===== -/
def bGe (L : List (Nat × Nat)) (c : Nat) : Nat := bE L (fun x => if c ≤ x then 1 else 0)
theorem bE_add (L : List (Nat × Nat)) (f h : Nat → Nat) : bE L (fun x => f x + h x) = bE L f + bE L h := by
  induction L with
  | nil => rfl
  | cons q L ih =>
    show q.2 * (f q.1 + h q.1) + bE L (fun x => f x + h x) = q.2 * f q.1 + bE L f + (q.2 * h q.1 + bE L h)
    rw [ih, Nat.mul_add]; omega
theorem bE_mul (L : List (Nat × Nat)) (c : Nat) (f : Nat → Nat) : bE L (fun x => c * f x) = c * bE L f := by
  induction L with
  | nil => rfl
  | cons q L ih =>
    show q.2 * (c * f q.1) + bE L (fun x => c * f x) = c * (q.2 * f q.1 + bE L f)
    rw [ih, Nat.mul_add, Nat.mul_left_comm]
theorem bE_zero {L : List (Nat × Nat)} {f : Nat → Nat} (h : ∀ k, k < L.length → f (L.getD k (0, 0)).1 = 0) : bE L f = 0 := by
  have hs : ∀ t, t ≤ L.length → bE (L.take t) f = 0 := by
    intro t
    induction t with
    | zero => intro _; rfl
    | succ t ih =>
      intro ht
      rw [bE_step L t (by omega), ih (by omega), h t (by omega), Nat.mul_zero]
  have e := hs L.length (Nat.le_refl _)
  rwa [List.take_length] at e
theorem ge_step (L : List (Nat × Nat)) (x : Nat) : bGe L x = bGe L (x + 1) + bMass L x := by
  unfold bGe bMass
  rw [← bE_add]
  apply bE_same
  intro y
  by_cases h : x + 1 ≤ y
  · rw [if_pos h, if_pos (by omega), if_neg (by omega)]
  · by_cases h2 : y = x
    · rw [if_neg h, if_pos (by omega), if_pos h2]
    · rw [if_neg h, if_neg (by omega), if_neg h2]
theorem gath_step (L : List (Nat × Nat)) (x : Nat) : bGath L ((x : Nat) : Int) = bGath L ((x + 1 : Nat) : Int) + x * bMass L x := by
  unfold bGath bMass
  rw [← bE_mul, ← bE_add]
  apply bE_same
  intro y
  by_cases h : x + 1 ≤ y
  · rw [if_pos (by omega), if_pos (by omega), if_neg (by omega)]; omega
  · by_cases h2 : y = x
    · rw [if_pos (by omega), if_neg (by omega), if_pos h2]; omega
    · rw [if_neg (by omega), if_neg (by omega), if_neg h2, Nat.mul_zero]
theorem ge_top {L : List (Nat × Nat)} (h : bOK L) : bGe L 1001 = 0 := bE_zero (fun k hk => by have := (h.2 k hk).1; rw [if_neg (by omega)])
theorem gath_top {L : List (Nat × Nat)} (h : bOK L) : bGath L ((1001 : Nat) : Int) = 0 := bE_zero (fun k hk => by have := (h.2 k hk).1; rw [if_neg (by omega)])
theorem ge_all (L : List (Nat × Nat)) : bGe L 0 = bE L (fun _ => 1) := bE_same (fun x => if_pos (Nat.zero_le _))
theorem ge_le (L : List (Nat × Nat)) (c : Nat) : bGe L c ≤ bE L (fun _ => 1) := bE_mono (fun x => by split <;> omega)
theorem bIn_mass (L : List (Nat × Nat)) (x : Nat) : bIn L (x : Int) (x : Int) = bMass L x := by
  unfold bIn bMass
  apply bE_same
  intro y
  by_cases h : y = x
  · rw [if_pos h, if_pos (by omega)]
  · rw [if_neg h, if_neg (by omega)]
/-- P / Q is the greatest of the bars at which what the worths from a worth up are above it is the cost -/
def FairV (L : List (Nat × Nat)) (cost : Int) (P : Int) (Q : Nat) : Prop := 0 < Q ∧ (∀ b : Nat, 0 < bGe L b → ((bGath L (b : Int) : Nat) - cost) * (Q : Int) ≤ P * (bGe L b : Nat)) ∧ ∃ b : Nat, bGe L b = Q ∧ P = (bGath L (b : Int) : Nat) - cost
def FI (L : List (Nat × Nat)) (cost : Int) (c : Nat) : Prop := 0 < bGe L c → ∀ b : Nat, c ≤ b → 0 < bGe L b → ((bGath L (b : Int) : Nat) - cost) * (bGe L c : Nat) ≤ ((bGath L (c : Int) : Nat) - cost) * (bGe L b : Nat)
theorem fr_trans {a c e : Int} {b d f : Nat} (hd : 0 < d) (h1 : a * (d : Int) ≤ c * (b : Int)) (h2 : c * (f : Int) ≤ e * (d : Int)) : a * (f : Int) ≤ e * (b : Int) := by
  have k1 : a * (d : Int) * (f : Int) ≤ c * (b : Int) * (f : Int) := Int.mul_le_mul_of_nonneg_right h1 (by omega)
  have k2 : c * (f : Int) * (b : Int) ≤ e * (d : Int) * (b : Int) := Int.mul_le_mul_of_nonneg_right h2 (by omega)
  have k3 : a * (f : Int) * (d : Int) ≤ e * (b : Int) * (d : Int) := by
    rw [Int.mul_assoc a, Int.mul_comm (f : Int), ← Int.mul_assoc, Int.mul_assoc e, Int.mul_comm (b : Int) (d : Int), ← Int.mul_assoc]
    refine Int.le_trans k1 ?_
    rw [Int.mul_assoc c, Int.mul_comm (b : Int) (f : Int), ← Int.mul_assoc]
    exact k2
  exact Int.le_of_mul_le_mul_right k3 (by omega)
theorem FI_skip {L : List (Nat × Nat)} {cost : Int} {x : Nat} (h : FI L cost (x + 1)) (hm : bMass L x = 0) : FI L cost x := by
  intro h0 b hb hb0
  have e1 := ge_step L x
  have e2 := gath_step L x
  rw [hm] at e1 e2
  rw [Nat.add_zero] at e1
  rw [Nat.mul_zero, Nat.add_zero] at e2
  by_cases e : b = x
  · subst e; exact Int.le_refl _
  · have := h (by omega) b (by omega) hb0
    rw [e1, e2]; exact this
theorem FI_add {L : List (Nat × Nat)} {cost : Int} {x : Nat} (h : FI L cost (x + 1)) (hc : 0 < bGe L (x + 1) → ((bGath L ((x + 1 : Nat) : Int) : Nat) : Int) - cost ≤ (x : Int) * (bGe L (x + 1) : Nat)) : FI L cost x := by
  intro h0 b hb hb0
  by_cases e : b = x
  · subst e; exact Int.le_refl _
  · have hb1 : 0 < bGe L (x + 1) := by
      apply Decidable.byContradiction
      intro hn
      have hz : bGe L b ≤ bGe L (x + 1) := bE_mono (fun y => by
        by_cases c1 : b ≤ y
        · rw [if_pos c1, if_pos (by omega)]; exact Nat.le_refl _
        · rw [if_neg c1]; exact Nat.zero_le _)
      omega
    have k1 := h hb1 b (by omega) hb0
    refine fr_trans hb1 k1 ?_
    have e1 := ge_step L x
    have e2 := gath_step L x
    have k2 := Int.mul_le_mul_of_nonneg_right (hc hb1) (Int.natCast_nonneg (bMass L x))
    rw [e1, e2]
    generalize bGe L (x + 1) = w at *
    generalize bMass L x = m at *
    generalize bGath L ((x + 1 : Nat) : Int) = s at *
    have e3 : ((s + x * m : Nat) : Int) - cost = ((s : Int) - cost) + (x : Int) * (m : Int) := by
      rw [Int.natCast_add, Int.natCast_mul]; omega
    rw [e3, Int.natCast_add, Int.mul_add, Int.add_mul]
    have e4 : (x : Int) * (m : Int) * (w : Int) = (x : Int) * (w : Int) * (m : Int) := by
      rw [Int.mul_assoc, Int.mul_comm (m : Int), ← Int.mul_assoc]
    rw [e4]
    omega
/-- nothing below counts any more -/
theorem FI_low {L : List (Nat × Nat)} {cost : Int} {c x : Nat} (hx : c ≤ x + 1) (h0 : 0 < bGe L c) (hc : (x : Int) * (bGe L c : Nat) ≤ ((bGath L (c : Int) : Nat) : Int) - cost) : ∀ d b, b + d = c → ((bGath L (b : Int) : Nat) - cost) * (bGe L c : Nat) ≤ ((bGath L (c : Int) : Nat) - cost) * (bGe L b : Nat) := by
  intro d
  induction d with
  | zero => intro b hb; rw [show b = c from by omega]; exact Int.le_refl _
  | succ d ih =>
    intro b hb
    have k := ih (b + 1) (by omega)
    have e1 := ge_step L b
    have e2 := gath_step L b
    have k2 : (b : Int) * (bGe L c : Nat) ≤ ((bGath L (c : Int) : Nat) : Int) - cost := Int.le_trans (Int.mul_le_mul_of_nonneg_right (show (b : Int) ≤ x by omega) (Int.natCast_nonneg _)) hc
    have k3 := Int.mul_le_mul_of_nonneg_right k2 (Int.natCast_nonneg (bMass L b))
    rw [e1, e2]
    generalize ((bGath L (c : Int) : Nat) : Int) - cost = P at *
    generalize bGe L c = w at *
    generalize bMass L b = m at *
    generalize bGath L ((b + 1 : Nat) : Int) = s at *
    generalize bGe L (b + 1) = v at *
    have e3 : ((s + b * m : Nat) : Int) - cost = ((s : Int) - cost) + (b : Int) * (m : Int) := by
      rw [Int.natCast_add, Int.natCast_mul]; omega
    rw [e3, Int.natCast_add, Int.mul_add, Int.add_mul]
    have e4 : (b : Int) * (m : Int) * (w : Int) = (b : Int) * (w : Int) * (m : Int) := by
      rw [Int.mul_assoc, Int.mul_comm (m : Int), ← Int.mul_assoc]
    rw [e4]
    omega
theorem FI_fair {L : List (Nat × Nat)} {cost : Int} {c x : Nat} (h : FI L cost c) (hx : c ≤ x + 1) (h0 : 0 < bGe L c) (hc : (x : Int) * (bGe L c : Nat) ≤ ((bGath L (c : Int) : Nat) : Int) - cost) : FairV L cost (((bGath L (c : Int) : Nat) : Int) - cost) (bGe L c) := by
  refine ⟨h0, fun b hb => ?_, c, rfl, rfl⟩
  by_cases e : c ≤ b
  · exact h h0 b e hb
  · exact FI_low hx h0 hc (c - b) b (by omega)
theorem FI_end {L : List (Nat × Nat)} {cost : Int} (h : FI L cost 0) (h0 : 0 < bGe L 0) : FairV L cost (((bGath L ((0 : Nat) : Int) : Nat) : Int) - cost) (bGe L 0) := ⟨h0, fun b hb => h h0 b (Nat.zero_le _) hb, 0, rfl, rfl⟩
theorem FairV_one {L : List (Nat × Nat)} {cost P1 P2 : Int} {Q1 Q2 : Nat} (h1 : FairV L cost P1 Q1) (h2 : FairV L cost P2 Q2) : P1 * (Q2 : Int) = P2 * (Q1 : Int) := by
  obtain ⟨a1, a2, b1, a3, a4⟩ := h1
  obtain ⟨c1, c2, d1, c3, c4⟩ := h2
  have k1 := a2 d1 (by omega)
  have k2 := c2 b1 (by omega)
  rw [← c4, c3] at k1
  rw [← a4, a3] at k2
  omega
theorem ge0_gath {L : List (Nat × Nat)} {c : Nat} (h : bGe L c = 0) : bGath L ((c : Nat) : Int) = 0 := by
  unfold bGe at h
  unfold bGath
  induction L with
  | nil => rfl
  | cons q L ih =>
    have h1 : q.2 * (if c ≤ q.1 then 1 else 0) + bE L (fun x => if c ≤ x then 1 else 0) = 0 := h
    show q.2 * (if ((c : Nat) : Int) ≤ (q.1 : Int) then q.1 else 0) + bE L (fun x => if ((c : Nat) : Int) ≤ (x : Int) then x else 0) = 0
    rw [ih (by omega), Nat.add_zero]
    by_cases e : c ≤ q.1
    · rw [if_pos e] at h1
      rw [show q.2 = 0 from by omega, Nat.zero_mul]
    · rw [if_neg (by omega), Nat.mul_zero]
theorem FI_none {L : List (Nat × Nat)} {cost : Int} {c : Nat} (h : bGe L c = 0) : FI L cost c := fun h0 => absurd h0 (by omega)

set_option maxHeartbeats 4000000 in
set_option maxRecDepth 100000 in
/-- fair -/
theorem c_X11_fair (l : Launch) (E : wE) (A : Nat → Nat) (n sz : Nat) (g : Nat → va_E) (i : Nat) (q : Nat → Int) (N : Nat → Int) (bk : Nat) (L : Nat → List (Nat × Nat)) (xz : Nat) (bx px : Nat → Nat) (z : Int) (hi : i + 16 < n) (hO : g i = mO A i q) (hN : MN E A g i N) (hB : BooksM E A g i bk L) (hq3 : q 3 = (xz : Int)) (hX : BoxM E A g i bk xz bx px) (hz : I32 z) : Met l yX11_fair wsX11_fair ({ frames := 7, cells := 0, slots := 0, locals := 260 } : Room) (va_Pc [.ref (A (i)), .int (iI (z))] (wPre E A n sz g)) (va_Qi (fun r g' => r = iI (if 0 ≤ z ∧ z < (xz : Int) then 1 else 0) ∧ (0 ≤ z ∧ z < (xz : Int) → ∃ (P : Int) (Q : Nat), FairV (L (bx z.toNat)) ((px z.toNat * bE (L (bx z.toNat)) (fun _ => 1) : Nat) : Int) P Q ∧ MR E A g' i (rdT P Q) (rdB P Q)) ∧ (¬ (0 ≤ z ∧ z < (xz : Int)) → g' = g) ∧ ∀ j, j ≠ i + 1 → g' j = g j) (wAt E A n) (wF A n sz)) 0 0 (wF A n sz) := by
  refine x_met (cc := cX11_fair) (maxL := 11) (ret := (some .boolean)) [.ref (A (i)), .int (iI (z))] (by decide) rfl (Nat.le_of_ble_eq_true rfl) ?_
  intro p_ e_ s_ m_ below meth c_ ls X hr hlk hnm hsz hW hl
  have hl : lv_has ls 11 [(0, .ref (A (i))), (1, .int (iI (z)))] := hl
  have lk_0 : ∀ w ∈ wsX110, w ∈ wsX11_fair := by decide +kernel
  have lk_1 : Cond.fieldLink RX11 172 (TX11 16).1 (TX11 16).2.1 (TX11 16).2.2.1 ∈ wsX11_fair := by decide +kernel
  have lk_2 : Cond.fieldLink RX11 51 (TX11 17).1 (TX11 17).2.1 (TX11 17).2.2.1 ∈ wsX11_fair := by decide +kernel
  have lk_3 : Cond.fieldLink RX11 54 (TX11 18).1 (TX11 18).2.1 (TX11 18).2.2.1 ∈ wsX11_fair := by decide +kernel
  have lk_4 : Cond.fieldLink RX11 33 (TX11 8).1 (TX11 8).2.1 (TX11 8).2.2.1 ∈ wsX11_fair := by decide +kernel
  have hO : g i = .inr (11, [.ref (A (i + 1)), .ref (A (i + 2)), .ref (A (i + 3)), .ref (A (i + 4)), .int (iI (q 0)), .ref (A (i + 5)), .ref (A (i + 6)), .ref (A (i + 7)), .ref (A (i + 8)), .int (iI (q 1)), .ref (A (i + 9)), .ref (A (i + 10)), .ref (A (i + 11)), .int (iI (q 2)), .ref (A (i + 12)), .ref (A (i + 13)), .int (iI (q 3)), .ref (A (i + 14)), .ref (A (i + 15)), .ref (A (i + 16)), .int (iI (q 4))]) := hO
  have hOg := hO
  have hfr : ∀ j, j ≠ i + 1 → g j = g j := fun _ _ => rfl
  have hBo := hB
  obtain ⟨f5, f6, f7, f8, h5, h6, h7, h8, hbk, hbv⟩ := id hB
  have h5o := h5
  have h6o := h6
  have h7o := h7
  have h8o := h8
  have hXo := hX
  obtain ⟨fx, fp, h14, h15, hc6, hxv⟩ := id hX
  have h14o := h14
  have h15o := h15
  have hz1 := hz.1
  have hz2 := hz.2
  refine lv_iload_n X.1 X.2.1 dX11_fair_0 rfl (lv_at hl 1 rfl) ?_
  refine x_if_lt (tgt := 12) X hz dX11_fair_1 (by decide) (fun b_1 => ?_) (fun b_1 => ?_)
  · refine x_iconst X dX11_fair_12 ?_
    exact x_zret X hr hlk (by decide) hW (⟨by rw [if_neg (by omega)], fun h => absurd h (by omega), fun _ => rfl, fun _ _ => rfl⟩) dX11_fair_13
  · refine lv_iload_n X.1 X.2.1 dX11_fair_4 rfl (lv_at hl 1 rfl) ?_
    refine lv_aload_n X.1 X.2.1 dX11_fair_5 rfl (lv_at hl 0 rfl) ?_
    refine x_get (C := RX11) (T := TX11) (N := 21) X hW (by omega) hO rfl lk_0 16 (by decide) lk_1 rfl dX11_fair_6 ?_
    refine x_seti ((xz : Int)) hq3 ?_
    refine x_icmp_lt (tgt := 14) X hz ⟨by omega, by omega⟩ dX11_fair_9 (by decide) (fun b_9 => ?_) (fun b_9 => ?_)
    · obtain ⟨t, ht⟩ : ∃ t, t = z.toNat := ⟨_, rfl⟩
      obtain ⟨hx1, hx2, hx3, hx4⟩ := hxv t (by omega)
      obtain ⟨hb1, hb5, hb8, hb9, hbq⟩ := hbv (bx t) hx1
      have hok : bOK (L (bx t)) := ⟨hb1, fun u hu => (hbq u hu).2.2⟩
      have ht8 : bE (L (bx t)) (fun _ => 1) ≤ 8000 := bOK_tot hok
      have hco : px t * bE (L (bx t)) (fun _ => 1) ≤ 1000 * 8000 := Nat.mul_le_mul hx2 ht8
      refine lv_aload_n X.1 X.2.1 dX11_fair_14 rfl (lv_at hl 0 rfl) ?_
      refine x_get (C := RX11) (T := TX11) (N := 21) X hW (by omega) hO rfl lk_0 17 (by decide) lk_2 rfl dX11_fair_15 ?_
      refine lv_iload_n X.1 X.2.1 dX11_fair_18 rfl (lv_at hl 1 rfl) ?_
      refine x_iald X hW (by omega) h14 (v := iI (((bx t : Nat) : Int))) t (by omega) (by omega) (by decide) hx3 dX11_fair_19 ?_
      refine lv_istore_n (lv' := [(2, .int (iI (((bx t : Nat) : Int)))), (0, .ref (A (i))), (1, .int (iI (z)))]) X.1 X.2.1 dX11_fair_20 rfl hl (by decide) rfl (fun ls hl => ?_)
      refine lv_aload_n X.1 X.2.1 dX11_fair_21 rfl (lv_at hl 1 rfl) ?_
      refine x_get (C := RX11) (T := TX11) (N := 21) X hW (by omega) hO rfl lk_0 18 (by decide) lk_3 rfl dX11_fair_22 ?_
      refine lv_iload_n X.1 X.2.1 dX11_fair_25 rfl (lv_at hl 2 rfl) ?_
      refine x_iald X hW (by omega) h15 (v := iI (((px t : Nat) : Int))) t (by omega) (by omega) (by decide) hx4 dX11_fair_26 ?_
      refine x_i2l X ⟨by omega, by omega⟩ dX11_fair_27 ?_
      refine lv_aload_n X.1 X.2.1 dX11_fair_28 rfl (lv_at hl 1 rfl) ?_
      refine x_get (C := RX11) (T := TX11) (N := 21) X hW (by omega) hO rfl lk_0 8 (by decide) lk_4 rfl dX11_fair_29 ?_
      refine lv_iload_n X.1 X.2.1 dX11_fair_32 rfl (lv_at hl 0 rfl) ?_
      refine x_iald X hW (by omega) h8 (v := iI (((bE (L (bx t)) (fun _ => 1) : Nat) : Int))) (bx t) (by omega) (by omega) (by decide) hb8 dX11_fair_33 ?_
      refine x_i2l X ⟨by omega, by omega⟩ dX11_fair_34 ?_
      refine x_lmul X dX11_fair_35 ?_
      refine x_setl (((px t * bE (L (bx t)) (fun _ => 1) : Nat) : Int)) ((Int.natCast_mul _ _).symm) ?_
      refine lv_lstore_n (lv' := [(3, .long (lI (((px t * bE (L (bx t)) (fun _ => 1) : Nat) : Int)))), (2, .int (iI (((bx t : Nat) : Int)))), (0, .ref (A (i))), (1, .int (iI (z)))]) X.1 X.2.1 dX11_fair_36 rfl hl (by decide) rfl (fun ls hl => ?_)
      refine x_lconst X 0 (by decide) dX11_fair_37 ?_
      refine x_setl (((0 : Nat) : Int)) rfl ?_
      refine lv_lstore (lv' := [(5, .long (lI (((0 : Nat) : Int)))), (3, .long (lI (((px t * bE (L (bx t)) (fun _ => 1) : Nat) : Int)))), (2, .int (iI (((bx t : Nat) : Int)))), (0, .ref (A (i))), (1, .int (iI (z)))]) X.1 X.2.1 dX11_fair_38 hl (by decide) rfl (fun ls hl => ?_)
      refine x_lconst X 0 (by decide) dX11_fair_40 ?_
      refine x_setl (((0 : Nat) : Int)) rfl ?_
      refine lv_lstore (lv' := [(7, .long (lI (((0 : Nat) : Int)))), (5, .long (lI (((0 : Nat) : Int)))), (3, .long (lI (((px t * bE (L (bx t)) (fun _ => 1) : Nat) : Int)))), (2, .int (iI (((bx t : Nat) : Int)))), (0, .ref (A (i))), (1, .int (iI (z)))]) X.1 X.2.1 dX11_fair_41 hl (by decide) rfl (fun ls hl => ?_)
      refine x_sipush X (by decide) dX11_fair_43 ?_
      refine x_seti (((1001 : Nat) : Int) - 1) rfl ?_
      refine lv_istore (lv' := [(9, .int (iI (((1001 : Nat) : Int) - 1))), (7, .long (lI (((0 : Nat) : Int)))), (5, .long (lI (((0 : Nat) : Int)))), (3, .long (lI (((px t * bE (L (bx t)) (fun _ => 1) : Nat) : Int)))), (2, .int (iI (((bx t : Nat) : Int)))), (0, .ref (A (i))), (1, .int (iI (z)))]) X.1 X.2.1 dX11_fair_46 hl (by decide) rfl (fun ls hl => ?_)
      have loop_48 : ∀ (fuel : Nat) (c : Nat) (ab : Nat) (we : Nat) (g1 : Nat → va_E) (H : Heap) (locs : List Loc) (ls : Array Slot), (c) < fuel → (c ≤ 1001) → (ab = bGath (L (bx t)) ((c : Nat) : Int)) → (we = bGe (L (bx t)) c) → (FI (L (bx t)) ((px t * bE (L (bx t)) (fun _ => 1) : Nat) : Int) c) → (((px t * bE (L (bx t)) (fun _ => 1) : Nat) : Int) = 0 → bGe (L (bx t)) c = 0) → (g1 = g) → wH E (wF A n sz) A n s_ g1 H locs → lv_has ls 11 [(0, .ref (A (i))), (1, .int (iI (z))), (2, .int (iI (((bx t : Nat) : Int)))), (3, .long (lI (((px t * bE (L (bx t)) (fun _ => 1) : Nat) : Int)))), (5, .long (lI (((ab : Nat) : Int)))), (7, .long (lI (((we : Nat) : Int)))), (9, .int (iI ((c : Int) - 1)))] → W p_ l e_ ({ frames := 7, cells := 0, slots := 0, locals := 260 } : Room) s_ m_ [.ref (A (i)), .int (iI (z))].toArray below meth c_ H locs 0 0 (MQ below (va_Qi (fun r g' => r = iI (if 0 ≤ z ∧ z < (xz : Int) then 1 else 0) ∧ (0 ≤ z ∧ z < (xz : Int) → ∃ (P : Int) (Q : Nat), FairV (L (bx z.toNat)) ((px z.toNat * bE (L (bx z.toNat)) (fun _ => 1) : Nat) : Int) P Q ∧ MR E A g' i (rdT P Q) (rdB P Q)) ∧ (¬ (0 ≤ z ∧ z < (xz : Int)) → g' = g) ∧ ∀ j, j ≠ i + 1 → g' j = g j) (wAt E A n) (wF A n sz)) [.ref (A (i)), .int (iI (z))].toArray s_ 0 0 (wF A n sz)) (F0 m_ 48 ls []) := by
        intro fuel
        induction fuel with
        | zero => intro c ab we g1 H locs ls hm; exact absurd hm (Nat.not_lt_zero _)
        | succ fuel ih_48 =>
          intro c ab we g1 H locs ls hm hc hab hwe hFI hp0 hgg hW hl
          have hO : g1 i = .inr (11, [.ref (A (i + 1)), .ref (A (i + 2)), .ref (A (i + 3)), .ref (A (i + 4)), .int (iI (q 0)), .ref (A (i + 5)), .ref (A (i + 6)), .ref (A (i + 7)), .ref (A (i + 8)), .int (iI (q 1)), .ref (A (i + 9)), .ref (A (i + 10)), .ref (A (i + 11)), .int (iI (q 2)), .ref (A (i + 12)), .ref (A (i + 13)), .int (iI (q 3)), .ref (A (i + 14)), .ref (A (i + 15)), .ref (A (i + 16)), .int (iI (q 4))]) := by rw [hgg]; exact hO
          have hfr : ∀ j, j ≠ i + 1 → g1 j = g j := fun j _ => by rw [hgg]
          have hN : MN E A g1 i N := by rw [hgg]; exact hN
          have h5 : g1 (i + 5) = aI E 16 f5 := by rw [hgg]; exact h5
          have h6 : g1 (i + 6) = aI E 128 f6 := by rw [hgg]; exact h6
          have h7 : g1 (i + 7) = aI E 128 f7 := by rw [hgg]; exact h7
          have h8 : g1 (i + 8) = aI E 16 f8 := by rw [hgg]; exact h8
          have h14 : g1 (i + 14) = aI E 6 fx := by rw [hgg]; exact h14
          have h15 : g1 (i + 15) = aI E 6 fp := by rw [hgg]; exact h15
          have hga : ab ≤ 8000000 := by rw [hab]; exact bOK_gath hok _
          have hge : we ≤ 8000 := by rw [hwe]; exact Nat.le_trans (ge_le (L (bx t)) c) ht8
          refine lv_iload X.1 X.2.1 dX11_fair_48 (lv_at hl 6 rfl) ?_
          refine x_if_lt (tgt := 131) X ⟨by omega, by omega⟩ dX11_fair_50 (by decide) (fun b_50 => ?_) (fun b_50 => ?_)
          · have hc0 : c = 0 := by omega
            rw [hc0] at hFI
            have hF : FairV (L (bx t)) ((px t * bE (L (bx t)) (fun _ => 1) : Nat) : Int) (((ab : Nat) : Int) - ((px t * bE (L (bx t)) (fun _ => 1) : Nat) : Int)) we := by rw [hab, hwe, hc0]; exact FI_end hFI (by rw [ge_all]; exact hb9)
            refine lv_aload_n X.1 X.2.1 dX11_fair_131 rfl (lv_at hl 0 rfl) ?_
            refine x_bipush X (by decide) dX11_fair_132 ?_
            refine lv_lload X.1 X.2.1 dX11_fair_134 (lv_at hl 4 rfl) ?_
            refine lv_lload_n X.1 X.2.1 dX11_fair_136 rfl (lv_at hl 3 rfl) ?_
            refine x_lsub X dX11_fair_137 ?_
            refine x_cv (x_runV (k := 2) (As := [.int (iI (10)), .long (lI ((((ab : Nat) : Int)) - (((px t * bE (L (bx t)) (fun _ => 1) : Nat) : Int))))]) (rest := []) X hW (c_X11_set l E A n _ g1 i (10) q N ((((ab : Nat) : Int)) - (((px t * bE (L (bx t)) (fun _ => 1) : Nat) : Int))) hi hO (by omega) hN (by omega) (by omega)) (by omega) hO rfl gX11_fair_X11_set rfl rfl rfl (by decide +kernel) ⟨by decide, by decide⟩ rfl hl.1 rfl (Nat.le_of_ble_eq_true rfl) dX11_fair_138 ⟨Nat.zero_le _, Nat.zero_le _⟩) hW (fun g_138 H locs hp_138 hW => ?_)
            obtain ⟨hN, hf_138⟩ := hp_138
            have hfr : ∀ j, j ≠ i + 1 → g_138 j = g j := fun j hj => (hf_138 j hj).trans (hfr j hj)
            have hO : g_138 i = .inr (11, [.ref (A (i + 1)), .ref (A (i + 2)), .ref (A (i + 3)), .ref (A (i + 4)), .int (iI (q 0)), .ref (A (i + 5)), .ref (A (i + 6)), .ref (A (i + 7)), .ref (A (i + 8)), .int (iI (q 1)), .ref (A (i + 9)), .ref (A (i + 10)), .ref (A (i + 11)), .int (iI (q 2)), .ref (A (i + 12)), .ref (A (i + 13)), .int (iI (q 3)), .ref (A (i + 14)), .ref (A (i + 15)), .ref (A (i + 16)), .int (iI (q 4))]) := by rw [hf_138 _ (by omega)]; exact hO
            have h5 : g_138 (i + 5) = aI E 16 f5 := by rw [hf_138 _ (by omega)]; exact h5
            have h6 : g_138 (i + 6) = aI E 128 f6 := by rw [hf_138 _ (by omega)]; exact h6
            have h7 : g_138 (i + 7) = aI E 128 f7 := by rw [hf_138 _ (by omega)]; exact h7
            have h8 : g_138 (i + 8) = aI E 16 f8 := by rw [hf_138 _ (by omega)]; exact h8
            have h14 : g_138 (i + 14) = aI E 6 fx := by rw [hf_138 _ (by omega)]; exact h14
            have h15 : g_138 (i + 15) = aI E 6 fp := by rw [hf_138 _ (by omega)]; exact h15
            refine lv_aload_n X.1 X.2.1 dX11_fair_141 rfl (lv_at hl 0 rfl) ?_
            refine x_bipush X (by decide) dX11_fair_142 ?_
            refine lv_lload X.1 X.2.1 dX11_fair_144 (lv_at hl 5 rfl) ?_
            refine x_cv (x_runV (k := 2) (As := [.int (iI (11)), .long (lI (((we : Nat) : Int)))]) (rest := []) X hW (c_X11_set l E A n _ g_138 i (11) q (va_up N (10) ((((ab : Nat) : Int)) - (((px t * bE (L (bx t)) (fun _ => 1) : Nat) : Int)))) (((we : Nat) : Int)) hi hO (by omega) hN (by omega) (by omega)) (by omega) hO rfl gX11_fair_X11_set rfl rfl rfl (by decide +kernel) ⟨by decide, by decide⟩ rfl hl.1 rfl (Nat.le_of_ble_eq_true rfl) dX11_fair_146 ⟨Nat.zero_le _, Nat.zero_le _⟩) hW (fun g_146 H locs hp_146 hW => ?_)
            obtain ⟨hN, hf_146⟩ := hp_146
            have hfr : ∀ j, j ≠ i + 1 → g_146 j = g j := fun j hj => (hf_146 j hj).trans (hfr j hj)
            have hO : g_146 i = .inr (11, [.ref (A (i + 1)), .ref (A (i + 2)), .ref (A (i + 3)), .ref (A (i + 4)), .int (iI (q 0)), .ref (A (i + 5)), .ref (A (i + 6)), .ref (A (i + 7)), .ref (A (i + 8)), .int (iI (q 1)), .ref (A (i + 9)), .ref (A (i + 10)), .ref (A (i + 11)), .int (iI (q 2)), .ref (A (i + 12)), .ref (A (i + 13)), .int (iI (q 3)), .ref (A (i + 14)), .ref (A (i + 15)), .ref (A (i + 16)), .int (iI (q 4))]) := by rw [hf_146 _ (by omega)]; exact hO
            have h5 : g_146 (i + 5) = aI E 16 f5 := by rw [hf_146 _ (by omega)]; exact h5
            have h6 : g_146 (i + 6) = aI E 128 f6 := by rw [hf_146 _ (by omega)]; exact h6
            have h7 : g_146 (i + 7) = aI E 128 f7 := by rw [hf_146 _ (by omega)]; exact h7
            have h8 : g_146 (i + 8) = aI E 16 f8 := by rw [hf_146 _ (by omega)]; exact h8
            have h14 : g_146 (i + 14) = aI E 6 fx := by rw [hf_146 _ (by omega)]; exact h14
            have h15 : g_146 (i + 15) = aI E 6 fp := by rw [hf_146 _ (by omega)]; exact h15
            refine lv_aload_n X.1 X.2.1 dX11_fair_149 rfl (lv_at hl 0 rfl) ?_
            refine x_bipush X (by decide) dX11_fair_150 ?_
            refine x_bipush X (by decide) dX11_fair_152 ?_
            refine x_cv (x_runV (k := 2) (As := [.int (iI (10)), .int (iI (11))]) (rest := []) X hW (c_X11_result l E A n _ g_146 i 10 11 q (va_up (va_up N (10) ((((ab : Nat) : Int)) - (((px t * bE (L (bx t)) (fun _ => 1) : Nat) : Int)))) (11) (((we : Nat) : Int))) ((((ab : Nat) : Int)) - (((px t * bE (L (bx t)) (fun _ => 1) : Nat) : Int))) _ hi hO (by omega) (by omega) (by omega) (by omega) hN (by rw [va_up_ne _ _ (by omega), va_up_self]) (va_up_self _ _ _) hF.1 (by omega) (by omega) (by omega)) (by omega) hO rfl gX11_fair_X11_result rfl rfl rfl (by decide +kernel) ⟨by decide, by decide⟩ rfl hl.1 rfl (Nat.le_of_ble_eq_true rfl) dX11_fair_154 ⟨Nat.zero_le _, Nat.zero_le _⟩) hW (fun g_154 H locs hp_154 hW => ?_)
            obtain ⟨⟨N_154, hN, v_0, v_1, ho8_154⟩, hf_154⟩ := hp_154
            have hfr : ∀ j, j ≠ i + 1 → g_154 j = g j := fun j hj => (hf_154 j hj).trans (hfr j hj)
            have hO : g_154 i = .inr (11, [.ref (A (i + 1)), .ref (A (i + 2)), .ref (A (i + 3)), .ref (A (i + 4)), .int (iI (q 0)), .ref (A (i + 5)), .ref (A (i + 6)), .ref (A (i + 7)), .ref (A (i + 8)), .int (iI (q 1)), .ref (A (i + 9)), .ref (A (i + 10)), .ref (A (i + 11)), .int (iI (q 2)), .ref (A (i + 12)), .ref (A (i + 13)), .int (iI (q 3)), .ref (A (i + 14)), .ref (A (i + 15)), .ref (A (i + 16)), .int (iI (q 4))]) := by rw [hf_154 _ (by omega)]; exact hO
            have h5 : g_154 (i + 5) = aI E 16 f5 := by rw [hf_154 _ (by omega)]; exact h5
            have h6 : g_154 (i + 6) = aI E 128 f6 := by rw [hf_154 _ (by omega)]; exact h6
            have h7 : g_154 (i + 7) = aI E 128 f7 := by rw [hf_154 _ (by omega)]; exact h7
            have h8 : g_154 (i + 8) = aI E 16 f8 := by rw [hf_154 _ (by omega)]; exact h8
            have h14 : g_154 (i + 14) = aI E 6 fx := by rw [hf_154 _ (by omega)]; exact h14
            have h15 : g_154 (i + 15) = aI E 6 fp := by rw [hf_154 _ (by omega)]; exact h15
            refine x_iconst X dX11_fair_157 ?_
            exact x_zret X hr hlk (by decide) hW (⟨by rw [if_pos (by omega)], fun _ => by rw [← ht]; exact ⟨_, _, hF, ⟨_, hN, v_0, v_1⟩⟩, fun h => absurd (show 0 ≤ z ∧ z < (xz : Int) by omega) h, hfr⟩) dX11_fair_158
          · obtain ⟨x, hx⟩ : ∃ x, c = x + 1 := ⟨c - 1, by omega⟩
            have hcx : (c : Int) - 1 = (x : Int) := by omega
            have hab2 : ab + x * bMass (L (bx t)) x = bGath (L (bx t)) ((x : Nat) : Int) := by rw [gath_step, ← hx, hab]
            have hwe2 : we + bMass (L (bx t)) x = bGe (L (bx t)) x := by rw [ge_step, ← hx, hwe]
            have hga2 : ab + x * bMass (L (bx t)) x ≤ 8000000 := by rw [hab2]; exact bOK_gath hok _
            have hge2 : we + bMass (L (bx t)) x ≤ 8000 := by rw [hwe2]; exact Nat.le_trans (ge_le (L (bx t)) x) ht8
            have hxg : x * we ≤ 1000 * 8000 := Nat.mul_le_mul (by omega) (by omega)
            have hxm : x * bMass (L (bx t)) x ≤ 1000 * 8000 := Nat.mul_le_mul (by omega) (by omega)
            have hxg2 : ((c : Int) - 1) * ((we : Nat) : Int) = ((x * we : Nat) : Int) := by rw [hcx, Int.natCast_mul]
            refine lv_aload_n X.1 X.2.1 dX11_fair_53 rfl (lv_at hl 0 rfl) ?_
            refine lv_iload_n X.1 X.2.1 dX11_fair_54 rfl (lv_at hl 2 rfl) ?_
            refine lv_iload X.1 X.2.1 dX11_fair_55 (lv_at hl 6 rfl) ?_
            refine lv_iload X.1 X.2.1 dX11_fair_57 (lv_at hl 6 rfl) ?_
            refine x_ci (x_runV (k := 3) (As := [.int (iI (((bx t : Nat) : Int))), .int (iI ((c : Int) - 1)), .int (iI ((c : Int) - 1))]) (rest := []) X hW (c_X11_weightOf l E A n _ g1 i q bk L (bx t) ((c : Int) - 1) ((c : Int) - 1) hi hO (hBo.frame (fun j a9 b9 => hfr j (by omega))) (by omega) ⟨by omega, by omega⟩ ⟨by omega, by omega⟩) (by omega) hO rfl gX11_fair_X11_weightOf rfl rfl rfl (by decide +kernel) ⟨by decide, by decide⟩ rfl hl.1 rfl (Nat.le_of_ble_eq_true rfl) dX11_fair_59 ⟨Nat.zero_le _, Nat.zero_le _⟩) hW (fun r_59 g_59 H locs hp_59 hW => ?_)
            obtain ⟨hr_59, he_59⟩ := hp_59
            rw [he_59] at hW
            subst hr_59
            refine x_seti (((bMass (L (bx t)) x : Nat) : Int)) (by rw [← bIn_mass, hcx]) ?_
            refine lv_istore (lv' := [(10, .int (iI (((bMass (L (bx t)) x : Nat) : Int)))), (0, .ref (A (i))), (1, .int (iI (z))), (2, .int (iI (((bx t : Nat) : Int)))), (3, .long (lI (((px t * bE (L (bx t)) (fun _ => 1) : Nat) : Int)))), (5, .long (lI (((ab : Nat) : Int)))), (7, .long (lI (((we : Nat) : Int)))), (9, .int (iI ((c : Int) - 1)))]) X.1 X.2.1 dX11_fair_62 hl (by decide) rfl (fun ls hl => ?_)
            refine lv_iload X.1 X.2.1 dX11_fair_64 (lv_at hl 0 rfl) ?_
            refine x_if_ne (tgt := 72) X ⟨by omega, by omega⟩ dX11_fair_66 (by decide) (fun b_66 => ?_) (fun b_66 => ?_)
            · refine lv_lload X.1 X.2.1 dX11_fair_72 (lv_at hl 6 rfl) ?_
              refine x_lconst X 0 (by decide) dX11_fair_74 ?_
              refine x_lcmp_le (tgt := 96) X ⟨by omega, by omega⟩ ⟨by decide, by decide⟩ dX11_fair_75 dX11_fair_76 (by decide) (fun b_75 => ?_) (fun b_75 => ?_)
              · have hst : 0 < bGe (L (bx t)) (x + 1) → ((bGath (L (bx t)) ((x + 1 : Nat) : Int) : Nat) : Int) - ((px t * bE (L (bx t)) (fun _ => 1) : Nat) : Int) ≤ (x : Int) * (bGe (L (bx t)) (x + 1) : Nat) := fun h9 => absurd h9 (by rw [← hx, ← hwe]; omega)
                refine lv_lload X.1 X.2.1 dX11_fair_96 (lv_at hl 5 rfl) ?_
                refine lv_iload X.1 X.2.1 dX11_fair_98 (lv_at hl 7 rfl) ?_
                refine x_i2l X ⟨by omega, by omega⟩ dX11_fair_100 ?_
                refine lv_iload X.1 X.2.1 dX11_fair_101 (lv_at hl 0 rfl) ?_
                refine x_i2l X ⟨by omega, by omega⟩ dX11_fair_103 ?_
                refine x_lmul X dX11_fair_104 ?_
                refine x_ladd X dX11_fair_105 ?_
                refine x_setl (((ab + x * bMass (L (bx t)) x : Nat) : Int)) (by rw [hcx, Int.natCast_add, Int.natCast_mul]) ?_
                refine lv_lstore (lv' := [(5, .long (lI (((ab + x * bMass (L (bx t)) x : Nat) : Int)))), (10, .int (iI (((bMass (L (bx t)) x : Nat) : Int)))), (0, .ref (A (i))), (1, .int (iI (z))), (2, .int (iI (((bx t : Nat) : Int)))), (3, .long (lI (((px t * bE (L (bx t)) (fun _ => 1) : Nat) : Int)))), (7, .long (lI (((we : Nat) : Int)))), (9, .int (iI ((c : Int) - 1)))]) X.1 X.2.1 dX11_fair_106 hl (by decide) rfl (fun ls hl => ?_)
                refine lv_lload X.1 X.2.1 dX11_fair_108 (lv_at hl 6 rfl) ?_
                refine lv_iload X.1 X.2.1 dX11_fair_110 (lv_at hl 1 rfl) ?_
                refine x_i2l X ⟨by omega, by omega⟩ dX11_fair_112 ?_
                refine x_ladd X dX11_fair_113 ?_
                refine x_setl (((we + bMass (L (bx t)) x : Nat) : Int)) (by omega) ?_
                refine lv_lstore (lv' := [(7, .long (lI (((we + bMass (L (bx t)) x : Nat) : Int)))), (5, .long (lI (((ab + x * bMass (L (bx t)) x : Nat) : Int)))), (10, .int (iI (((bMass (L (bx t)) x : Nat) : Int)))), (0, .ref (A (i))), (1, .int (iI (z))), (2, .int (iI (((bx t : Nat) : Int)))), (3, .long (lI (((px t * bE (L (bx t)) (fun _ => 1) : Nat) : Int)))), (9, .int (iI ((c : Int) - 1)))]) X.1 X.2.1 dX11_fair_114 hl (by decide) rfl (fun ls hl => ?_)
                refine lv_lload_n X.1 X.2.1 dX11_fair_116 rfl (lv_at hl 6 rfl) ?_
                refine x_lconst X 0 (by decide) dX11_fair_117 ?_
                refine x_lcmp_ne (tgt := 125) X ⟨by omega, by omega⟩ ⟨by decide, by decide⟩ dX11_fair_118 dX11_fair_119 (by decide) (fun b_118 => ?_) (fun b_118 => ?_)
                · refine lv_iinc (v := iI ((x : Int) - 1)) (lv' := [(9, .int (iI ((x : Int) - 1))), (7, .long (lI (((we + bMass (L (bx t)) x : Nat) : Int)))), (5, .long (lI (((ab + x * bMass (L (bx t)) x : Nat) : Int)))), (10, .int (iI (((bMass (L (bx t)) x : Nat) : Int)))), (0, .ref (A (i))), (1, .int (iI (z))), (2, .int (iI (((bx t : Nat) : Int)))), (3, .long (lI (((px t * bE (L (bx t)) (fun _ => 1) : Nat) : Int))))]) X.1 X.2.1 dX11_fair_125 hl (k := 7) rfl (by rw [show (Int32.ofInt (-1)) = iI (-1) from rfl, iI_add]; congr 1; omega) (by decide) rfl (fun ls hl => ?_)
                  refine lv_goto (tgt := 48) X.1 X.2.1 dX11_fair_128 (by decide) ?_
                  exact ih_48 x (ab + x * bMass (L (bx t)) x) (we + bMass (L (bx t)) x) g1 _ _ _ (by omega) (by omega) hab2 hwe2 (FI_add (by rw [← hx]; exact hFI) hst) (fun h9 => absurd h9 (by omega)) hgg hW (lv_sub hl [4, 5, 6, 7, 2, 1, 0] rfl)
                · have hFx := FI_add (by rw [← hx]; exact hFI) hst
                  have hw0 : we = 0 := by rw [hwe]; exact hp0 (by omega)
                  have ha0 : ab = 0 := by rw [hab]; exact ge0_gath (by rw [← hwe]; exact hw0)
                  have hF : FairV (L (bx t)) ((px t * bE (L (bx t)) (fun _ => 1) : Nat) : Int) (((ab + x * bMass (L (bx t)) x : Nat) : Int) - ((px t * bE (L (bx t)) (fun _ => 1) : Nat) : Int)) (we + bMass (L (bx t)) x) := by
                    have h8 := FI_fair hFx (x := x) (by omega) (by rw [← hwe2]; omega) (by rw [← hab2, ← hwe2, hw0, ha0, Nat.zero_add, Nat.zero_add, Int.natCast_mul]; omega)
                    rwa [← hab2, ← hwe2] at h8
                  refine lv_goto (tgt := 131) X.1 X.2.1 dX11_fair_122 (by decide) ?_
                  refine lv_aload_n X.1 X.2.1 dX11_fair_131 rfl (lv_at hl 3 rfl) ?_
                  refine x_bipush X (by decide) dX11_fair_132 ?_
                  refine lv_lload X.1 X.2.1 dX11_fair_134 (lv_at hl 1 rfl) ?_
                  refine lv_lload_n X.1 X.2.1 dX11_fair_136 rfl (lv_at hl 6 rfl) ?_
                  refine x_lsub X dX11_fair_137 ?_
                  refine x_cv (x_runV (k := 2) (As := [.int (iI (10)), .long (lI ((((ab + x * bMass (L (bx t)) x : Nat) : Int)) - (((px t * bE (L (bx t)) (fun _ => 1) : Nat) : Int))))]) (rest := []) X hW (c_X11_set l E A n _ g1 i (10) q N ((((ab + x * bMass (L (bx t)) x : Nat) : Int)) - (((px t * bE (L (bx t)) (fun _ => 1) : Nat) : Int))) hi hO (by omega) hN (by omega) (by omega)) (by omega) hO rfl gX11_fair_X11_set rfl rfl rfl (by decide +kernel) ⟨by decide, by decide⟩ rfl hl.1 rfl (Nat.le_of_ble_eq_true rfl) dX11_fair_138 ⟨Nat.zero_le _, Nat.zero_le _⟩) hW (fun g_138 H locs hp_138 hW => ?_)
                  obtain ⟨hN, hf_138⟩ := hp_138
                  have hfr : ∀ j, j ≠ i + 1 → g_138 j = g j := fun j hj => (hf_138 j hj).trans (hfr j hj)
                  have hO : g_138 i = .inr (11, [.ref (A (i + 1)), .ref (A (i + 2)), .ref (A (i + 3)), .ref (A (i + 4)), .int (iI (q 0)), .ref (A (i + 5)), .ref (A (i + 6)), .ref (A (i + 7)), .ref (A (i + 8)), .int (iI (q 1)), .ref (A (i + 9)), .ref (A (i + 10)), .ref (A (i + 11)), .int (iI (q 2)), .ref (A (i + 12)), .ref (A (i + 13)), .int (iI (q 3)), .ref (A (i + 14)), .ref (A (i + 15)), .ref (A (i + 16)), .int (iI (q 4))]) := by rw [hf_138 _ (by omega)]; exact hO
                  have h5 : g_138 (i + 5) = aI E 16 f5 := by rw [hf_138 _ (by omega)]; exact h5
                  have h6 : g_138 (i + 6) = aI E 128 f6 := by rw [hf_138 _ (by omega)]; exact h6
                  have h7 : g_138 (i + 7) = aI E 128 f7 := by rw [hf_138 _ (by omega)]; exact h7
                  have h8 : g_138 (i + 8) = aI E 16 f8 := by rw [hf_138 _ (by omega)]; exact h8
                  have h14 : g_138 (i + 14) = aI E 6 fx := by rw [hf_138 _ (by omega)]; exact h14
                  have h15 : g_138 (i + 15) = aI E 6 fp := by rw [hf_138 _ (by omega)]; exact h15
                  refine lv_aload_n X.1 X.2.1 dX11_fair_141 rfl (lv_at hl 3 rfl) ?_
                  refine x_bipush X (by decide) dX11_fair_142 ?_
                  refine lv_lload X.1 X.2.1 dX11_fair_144 (lv_at hl 0 rfl) ?_
                  refine x_cv (x_runV (k := 2) (As := [.int (iI (11)), .long (lI (((we + bMass (L (bx t)) x : Nat) : Int)))]) (rest := []) X hW (c_X11_set l E A n _ g_138 i (11) q (va_up N (10) ((((ab + x * bMass (L (bx t)) x : Nat) : Int)) - (((px t * bE (L (bx t)) (fun _ => 1) : Nat) : Int)))) (((we + bMass (L (bx t)) x : Nat) : Int)) hi hO (by omega) hN (by omega) (by omega)) (by omega) hO rfl gX11_fair_X11_set rfl rfl rfl (by decide +kernel) ⟨by decide, by decide⟩ rfl hl.1 rfl (Nat.le_of_ble_eq_true rfl) dX11_fair_146 ⟨Nat.zero_le _, Nat.zero_le _⟩) hW (fun g_146 H locs hp_146 hW => ?_)
                  obtain ⟨hN, hf_146⟩ := hp_146
                  have hfr : ∀ j, j ≠ i + 1 → g_146 j = g j := fun j hj => (hf_146 j hj).trans (hfr j hj)
                  have hO : g_146 i = .inr (11, [.ref (A (i + 1)), .ref (A (i + 2)), .ref (A (i + 3)), .ref (A (i + 4)), .int (iI (q 0)), .ref (A (i + 5)), .ref (A (i + 6)), .ref (A (i + 7)), .ref (A (i + 8)), .int (iI (q 1)), .ref (A (i + 9)), .ref (A (i + 10)), .ref (A (i + 11)), .int (iI (q 2)), .ref (A (i + 12)), .ref (A (i + 13)), .int (iI (q 3)), .ref (A (i + 14)), .ref (A (i + 15)), .ref (A (i + 16)), .int (iI (q 4))]) := by rw [hf_146 _ (by omega)]; exact hO
                  have h5 : g_146 (i + 5) = aI E 16 f5 := by rw [hf_146 _ (by omega)]; exact h5
                  have h6 : g_146 (i + 6) = aI E 128 f6 := by rw [hf_146 _ (by omega)]; exact h6
                  have h7 : g_146 (i + 7) = aI E 128 f7 := by rw [hf_146 _ (by omega)]; exact h7
                  have h8 : g_146 (i + 8) = aI E 16 f8 := by rw [hf_146 _ (by omega)]; exact h8
                  have h14 : g_146 (i + 14) = aI E 6 fx := by rw [hf_146 _ (by omega)]; exact h14
                  have h15 : g_146 (i + 15) = aI E 6 fp := by rw [hf_146 _ (by omega)]; exact h15
                  refine lv_aload_n X.1 X.2.1 dX11_fair_149 rfl (lv_at hl 3 rfl) ?_
                  refine x_bipush X (by decide) dX11_fair_150 ?_
                  refine x_bipush X (by decide) dX11_fair_152 ?_
                  refine x_cv (x_runV (k := 2) (As := [.int (iI (10)), .int (iI (11))]) (rest := []) X hW (c_X11_result l E A n _ g_146 i 10 11 q (va_up (va_up N (10) ((((ab + x * bMass (L (bx t)) x : Nat) : Int)) - (((px t * bE (L (bx t)) (fun _ => 1) : Nat) : Int)))) (11) (((we + bMass (L (bx t)) x : Nat) : Int))) ((((ab + x * bMass (L (bx t)) x : Nat) : Int)) - (((px t * bE (L (bx t)) (fun _ => 1) : Nat) : Int))) _ hi hO (by omega) (by omega) (by omega) (by omega) hN (by rw [va_up_ne _ _ (by omega), va_up_self]) (va_up_self _ _ _) hF.1 (by omega) (by omega) (by omega)) (by omega) hO rfl gX11_fair_X11_result rfl rfl rfl (by decide +kernel) ⟨by decide, by decide⟩ rfl hl.1 rfl (Nat.le_of_ble_eq_true rfl) dX11_fair_154 ⟨Nat.zero_le _, Nat.zero_le _⟩) hW (fun g_154 H locs hp_154 hW => ?_)
                  obtain ⟨⟨N_154, hN, v_0, v_1, ho8_154⟩, hf_154⟩ := hp_154
                  have hfr : ∀ j, j ≠ i + 1 → g_154 j = g j := fun j hj => (hf_154 j hj).trans (hfr j hj)
                  have hO : g_154 i = .inr (11, [.ref (A (i + 1)), .ref (A (i + 2)), .ref (A (i + 3)), .ref (A (i + 4)), .int (iI (q 0)), .ref (A (i + 5)), .ref (A (i + 6)), .ref (A (i + 7)), .ref (A (i + 8)), .int (iI (q 1)), .ref (A (i + 9)), .ref (A (i + 10)), .ref (A (i + 11)), .int (iI (q 2)), .ref (A (i + 12)), .ref (A (i + 13)), .int (iI (q 3)), .ref (A (i + 14)), .ref (A (i + 15)), .ref (A (i + 16)), .int (iI (q 4))]) := by rw [hf_154 _ (by omega)]; exact hO
                  have h5 : g_154 (i + 5) = aI E 16 f5 := by rw [hf_154 _ (by omega)]; exact h5
                  have h6 : g_154 (i + 6) = aI E 128 f6 := by rw [hf_154 _ (by omega)]; exact h6
                  have h7 : g_154 (i + 7) = aI E 128 f7 := by rw [hf_154 _ (by omega)]; exact h7
                  have h8 : g_154 (i + 8) = aI E 16 f8 := by rw [hf_154 _ (by omega)]; exact h8
                  have h14 : g_154 (i + 14) = aI E 6 fx := by rw [hf_154 _ (by omega)]; exact h14
                  have h15 : g_154 (i + 15) = aI E 6 fp := by rw [hf_154 _ (by omega)]; exact h15
                  refine x_iconst X dX11_fair_157 ?_
                  exact x_zret X hr hlk (by decide) hW (⟨by rw [if_pos (by omega)], fun _ => by rw [← ht]; exact ⟨_, _, hF, ⟨_, hN, v_0, v_1⟩⟩, fun h => absurd (show 0 ≤ z ∧ z < (xz : Int) by omega) h, hfr⟩) dX11_fair_158
              · refine lv_lload X.1 X.2.1 dX11_fair_79 (lv_at hl 5 rfl) ?_
                refine lv_lload_n X.1 X.2.1 dX11_fair_81 rfl (lv_at hl 4 rfl) ?_
                refine x_lsub X dX11_fair_82 ?_
                refine lv_iload X.1 X.2.1 dX11_fair_83 (lv_at hl 7 rfl) ?_
                refine x_i2l X ⟨by omega, by omega⟩ dX11_fair_85 ?_
                refine lv_lload X.1 X.2.1 dX11_fair_86 (lv_at hl 6 rfl) ?_
                refine x_lmul X dX11_fair_88 ?_
                refine x_lcmp_lt (tgt := 96) X ⟨by omega, by omega⟩ (by rw [hxg2]; exact ⟨by omega, by omega⟩) dX11_fair_89 dX11_fair_90 (by decide) (fun b_89 => ?_) (fun b_89 => ?_)
                · have hst : 0 < bGe (L (bx t)) (x + 1) → ((bGath (L (bx t)) ((x + 1 : Nat) : Int) : Nat) : Int) - ((px t * bE (L (bx t)) (fun _ => 1) : Nat) : Int) ≤ (x : Int) * (bGe (L (bx t)) (x + 1) : Nat) := fun _ => by rw [← hx, ← hab, ← hwe, ← Int.natCast_mul]; omega
                  refine lv_lload X.1 X.2.1 dX11_fair_96 (lv_at hl 5 rfl) ?_
                  refine lv_iload X.1 X.2.1 dX11_fair_98 (lv_at hl 7 rfl) ?_
                  refine x_i2l X ⟨by omega, by omega⟩ dX11_fair_100 ?_
                  refine lv_iload X.1 X.2.1 dX11_fair_101 (lv_at hl 0 rfl) ?_
                  refine x_i2l X ⟨by omega, by omega⟩ dX11_fair_103 ?_
                  refine x_lmul X dX11_fair_104 ?_
                  refine x_ladd X dX11_fair_105 ?_
                  refine x_setl (((ab + x * bMass (L (bx t)) x : Nat) : Int)) (by rw [hcx, Int.natCast_add, Int.natCast_mul]) ?_
                  refine lv_lstore (lv' := [(5, .long (lI (((ab + x * bMass (L (bx t)) x : Nat) : Int)))), (10, .int (iI (((bMass (L (bx t)) x : Nat) : Int)))), (0, .ref (A (i))), (1, .int (iI (z))), (2, .int (iI (((bx t : Nat) : Int)))), (3, .long (lI (((px t * bE (L (bx t)) (fun _ => 1) : Nat) : Int)))), (7, .long (lI (((we : Nat) : Int)))), (9, .int (iI ((c : Int) - 1)))]) X.1 X.2.1 dX11_fair_106 hl (by decide) rfl (fun ls hl => ?_)
                  refine lv_lload X.1 X.2.1 dX11_fair_108 (lv_at hl 6 rfl) ?_
                  refine lv_iload X.1 X.2.1 dX11_fair_110 (lv_at hl 1 rfl) ?_
                  refine x_i2l X ⟨by omega, by omega⟩ dX11_fair_112 ?_
                  refine x_ladd X dX11_fair_113 ?_
                  refine x_setl (((we + bMass (L (bx t)) x : Nat) : Int)) (by omega) ?_
                  refine lv_lstore (lv' := [(7, .long (lI (((we + bMass (L (bx t)) x : Nat) : Int)))), (5, .long (lI (((ab + x * bMass (L (bx t)) x : Nat) : Int)))), (10, .int (iI (((bMass (L (bx t)) x : Nat) : Int)))), (0, .ref (A (i))), (1, .int (iI (z))), (2, .int (iI (((bx t : Nat) : Int)))), (3, .long (lI (((px t * bE (L (bx t)) (fun _ => 1) : Nat) : Int)))), (9, .int (iI ((c : Int) - 1)))]) X.1 X.2.1 dX11_fair_114 hl (by decide) rfl (fun ls hl => ?_)
                  refine lv_lload_n X.1 X.2.1 dX11_fair_116 rfl (lv_at hl 6 rfl) ?_
                  refine x_lconst X 0 (by decide) dX11_fair_117 ?_
                  refine x_lcmp_ne (tgt := 125) X ⟨by omega, by omega⟩ ⟨by decide, by decide⟩ dX11_fair_118 dX11_fair_119 (by decide) (fun b_118 => ?_) (fun b_118 => ?_)
                  · refine lv_iinc (v := iI ((x : Int) - 1)) (lv' := [(9, .int (iI ((x : Int) - 1))), (7, .long (lI (((we + bMass (L (bx t)) x : Nat) : Int)))), (5, .long (lI (((ab + x * bMass (L (bx t)) x : Nat) : Int)))), (10, .int (iI (((bMass (L (bx t)) x : Nat) : Int)))), (0, .ref (A (i))), (1, .int (iI (z))), (2, .int (iI (((bx t : Nat) : Int)))), (3, .long (lI (((px t * bE (L (bx t)) (fun _ => 1) : Nat) : Int))))]) X.1 X.2.1 dX11_fair_125 hl (k := 7) rfl (by rw [show (Int32.ofInt (-1)) = iI (-1) from rfl, iI_add]; congr 1; omega) (by decide) rfl (fun ls hl => ?_)
                    refine lv_goto (tgt := 48) X.1 X.2.1 dX11_fair_128 (by decide) ?_
                    exact ih_48 x (ab + x * bMass (L (bx t)) x) (we + bMass (L (bx t)) x) g1 _ _ _ (by omega) (by omega) hab2 hwe2 (FI_add (by rw [← hx]; exact hFI) hst) (fun h9 => absurd h9 (by omega)) hgg hW (lv_sub hl [4, 5, 6, 7, 2, 1, 0] rfl)
                  · have hFx := FI_add (by rw [← hx]; exact hFI) hst
                    have hw0 : we = 0 := by rw [hwe]; exact hp0 (by omega)
                    have ha0 : ab = 0 := by rw [hab]; exact ge0_gath (by rw [← hwe]; exact hw0)
                    have hF : FairV (L (bx t)) ((px t * bE (L (bx t)) (fun _ => 1) : Nat) : Int) (((ab + x * bMass (L (bx t)) x : Nat) : Int) - ((px t * bE (L (bx t)) (fun _ => 1) : Nat) : Int)) (we + bMass (L (bx t)) x) := by
                      have h8 := FI_fair hFx (x := x) (by omega) (by rw [← hwe2]; omega) (by rw [← hab2, ← hwe2, hw0, ha0, Nat.zero_add, Nat.zero_add, Int.natCast_mul]; omega)
                      rwa [← hab2, ← hwe2] at h8
                    refine lv_goto (tgt := 131) X.1 X.2.1 dX11_fair_122 (by decide) ?_
                    refine lv_aload_n X.1 X.2.1 dX11_fair_131 rfl (lv_at hl 3 rfl) ?_
                    refine x_bipush X (by decide) dX11_fair_132 ?_
                    refine lv_lload X.1 X.2.1 dX11_fair_134 (lv_at hl 1 rfl) ?_
                    refine lv_lload_n X.1 X.2.1 dX11_fair_136 rfl (lv_at hl 6 rfl) ?_
                    refine x_lsub X dX11_fair_137 ?_
                    refine x_cv (x_runV (k := 2) (As := [.int (iI (10)), .long (lI ((((ab + x * bMass (L (bx t)) x : Nat) : Int)) - (((px t * bE (L (bx t)) (fun _ => 1) : Nat) : Int))))]) (rest := []) X hW (c_X11_set l E A n _ g1 i (10) q N ((((ab + x * bMass (L (bx t)) x : Nat) : Int)) - (((px t * bE (L (bx t)) (fun _ => 1) : Nat) : Int))) hi hO (by omega) hN (by omega) (by omega)) (by omega) hO rfl gX11_fair_X11_set rfl rfl rfl (by decide +kernel) ⟨by decide, by decide⟩ rfl hl.1 rfl (Nat.le_of_ble_eq_true rfl) dX11_fair_138 ⟨Nat.zero_le _, Nat.zero_le _⟩) hW (fun g_138 H locs hp_138 hW => ?_)
                    obtain ⟨hN, hf_138⟩ := hp_138
                    have hfr : ∀ j, j ≠ i + 1 → g_138 j = g j := fun j hj => (hf_138 j hj).trans (hfr j hj)
                    have hO : g_138 i = .inr (11, [.ref (A (i + 1)), .ref (A (i + 2)), .ref (A (i + 3)), .ref (A (i + 4)), .int (iI (q 0)), .ref (A (i + 5)), .ref (A (i + 6)), .ref (A (i + 7)), .ref (A (i + 8)), .int (iI (q 1)), .ref (A (i + 9)), .ref (A (i + 10)), .ref (A (i + 11)), .int (iI (q 2)), .ref (A (i + 12)), .ref (A (i + 13)), .int (iI (q 3)), .ref (A (i + 14)), .ref (A (i + 15)), .ref (A (i + 16)), .int (iI (q 4))]) := by rw [hf_138 _ (by omega)]; exact hO
                    have h5 : g_138 (i + 5) = aI E 16 f5 := by rw [hf_138 _ (by omega)]; exact h5
                    have h6 : g_138 (i + 6) = aI E 128 f6 := by rw [hf_138 _ (by omega)]; exact h6
                    have h7 : g_138 (i + 7) = aI E 128 f7 := by rw [hf_138 _ (by omega)]; exact h7
                    have h8 : g_138 (i + 8) = aI E 16 f8 := by rw [hf_138 _ (by omega)]; exact h8
                    have h14 : g_138 (i + 14) = aI E 6 fx := by rw [hf_138 _ (by omega)]; exact h14
                    have h15 : g_138 (i + 15) = aI E 6 fp := by rw [hf_138 _ (by omega)]; exact h15
                    refine lv_aload_n X.1 X.2.1 dX11_fair_141 rfl (lv_at hl 3 rfl) ?_
                    refine x_bipush X (by decide) dX11_fair_142 ?_
                    refine lv_lload X.1 X.2.1 dX11_fair_144 (lv_at hl 0 rfl) ?_
                    refine x_cv (x_runV (k := 2) (As := [.int (iI (11)), .long (lI (((we + bMass (L (bx t)) x : Nat) : Int)))]) (rest := []) X hW (c_X11_set l E A n _ g_138 i (11) q (va_up N (10) ((((ab + x * bMass (L (bx t)) x : Nat) : Int)) - (((px t * bE (L (bx t)) (fun _ => 1) : Nat) : Int)))) (((we + bMass (L (bx t)) x : Nat) : Int)) hi hO (by omega) hN (by omega) (by omega)) (by omega) hO rfl gX11_fair_X11_set rfl rfl rfl (by decide +kernel) ⟨by decide, by decide⟩ rfl hl.1 rfl (Nat.le_of_ble_eq_true rfl) dX11_fair_146 ⟨Nat.zero_le _, Nat.zero_le _⟩) hW (fun g_146 H locs hp_146 hW => ?_)
                    obtain ⟨hN, hf_146⟩ := hp_146
                    have hfr : ∀ j, j ≠ i + 1 → g_146 j = g j := fun j hj => (hf_146 j hj).trans (hfr j hj)
                    have hO : g_146 i = .inr (11, [.ref (A (i + 1)), .ref (A (i + 2)), .ref (A (i + 3)), .ref (A (i + 4)), .int (iI (q 0)), .ref (A (i + 5)), .ref (A (i + 6)), .ref (A (i + 7)), .ref (A (i + 8)), .int (iI (q 1)), .ref (A (i + 9)), .ref (A (i + 10)), .ref (A (i + 11)), .int (iI (q 2)), .ref (A (i + 12)), .ref (A (i + 13)), .int (iI (q 3)), .ref (A (i + 14)), .ref (A (i + 15)), .ref (A (i + 16)), .int (iI (q 4))]) := by rw [hf_146 _ (by omega)]; exact hO
                    have h5 : g_146 (i + 5) = aI E 16 f5 := by rw [hf_146 _ (by omega)]; exact h5
                    have h6 : g_146 (i + 6) = aI E 128 f6 := by rw [hf_146 _ (by omega)]; exact h6
                    have h7 : g_146 (i + 7) = aI E 128 f7 := by rw [hf_146 _ (by omega)]; exact h7
                    have h8 : g_146 (i + 8) = aI E 16 f8 := by rw [hf_146 _ (by omega)]; exact h8
                    have h14 : g_146 (i + 14) = aI E 6 fx := by rw [hf_146 _ (by omega)]; exact h14
                    have h15 : g_146 (i + 15) = aI E 6 fp := by rw [hf_146 _ (by omega)]; exact h15
                    refine lv_aload_n X.1 X.2.1 dX11_fair_149 rfl (lv_at hl 3 rfl) ?_
                    refine x_bipush X (by decide) dX11_fair_150 ?_
                    refine x_bipush X (by decide) dX11_fair_152 ?_
                    refine x_cv (x_runV (k := 2) (As := [.int (iI (10)), .int (iI (11))]) (rest := []) X hW (c_X11_result l E A n _ g_146 i 10 11 q (va_up (va_up N (10) ((((ab + x * bMass (L (bx t)) x : Nat) : Int)) - (((px t * bE (L (bx t)) (fun _ => 1) : Nat) : Int)))) (11) (((we + bMass (L (bx t)) x : Nat) : Int))) ((((ab + x * bMass (L (bx t)) x : Nat) : Int)) - (((px t * bE (L (bx t)) (fun _ => 1) : Nat) : Int))) _ hi hO (by omega) (by omega) (by omega) (by omega) hN (by rw [va_up_ne _ _ (by omega), va_up_self]) (va_up_self _ _ _) hF.1 (by omega) (by omega) (by omega)) (by omega) hO rfl gX11_fair_X11_result rfl rfl rfl (by decide +kernel) ⟨by decide, by decide⟩ rfl hl.1 rfl (Nat.le_of_ble_eq_true rfl) dX11_fair_154 ⟨Nat.zero_le _, Nat.zero_le _⟩) hW (fun g_154 H locs hp_154 hW => ?_)
                    obtain ⟨⟨N_154, hN, v_0, v_1, ho8_154⟩, hf_154⟩ := hp_154
                    have hfr : ∀ j, j ≠ i + 1 → g_154 j = g j := fun j hj => (hf_154 j hj).trans (hfr j hj)
                    have hO : g_154 i = .inr (11, [.ref (A (i + 1)), .ref (A (i + 2)), .ref (A (i + 3)), .ref (A (i + 4)), .int (iI (q 0)), .ref (A (i + 5)), .ref (A (i + 6)), .ref (A (i + 7)), .ref (A (i + 8)), .int (iI (q 1)), .ref (A (i + 9)), .ref (A (i + 10)), .ref (A (i + 11)), .int (iI (q 2)), .ref (A (i + 12)), .ref (A (i + 13)), .int (iI (q 3)), .ref (A (i + 14)), .ref (A (i + 15)), .ref (A (i + 16)), .int (iI (q 4))]) := by rw [hf_154 _ (by omega)]; exact hO
                    have h5 : g_154 (i + 5) = aI E 16 f5 := by rw [hf_154 _ (by omega)]; exact h5
                    have h6 : g_154 (i + 6) = aI E 128 f6 := by rw [hf_154 _ (by omega)]; exact h6
                    have h7 : g_154 (i + 7) = aI E 128 f7 := by rw [hf_154 _ (by omega)]; exact h7
                    have h8 : g_154 (i + 8) = aI E 16 f8 := by rw [hf_154 _ (by omega)]; exact h8
                    have h14 : g_154 (i + 14) = aI E 6 fx := by rw [hf_154 _ (by omega)]; exact h14
                    have h15 : g_154 (i + 15) = aI E 6 fp := by rw [hf_154 _ (by omega)]; exact h15
                    refine x_iconst X dX11_fair_157 ?_
                    exact x_zret X hr hlk (by decide) hW (⟨by rw [if_pos (by omega)], fun _ => by rw [← ht]; exact ⟨_, _, hF, ⟨_, hN, v_0, v_1⟩⟩, fun h => absurd (show 0 ≤ z ∧ z < (xz : Int) by omega) h, hfr⟩) dX11_fair_158
                · have hF : FairV (L (bx t)) ((px t * bE (L (bx t)) (fun _ => 1) : Nat) : Int) (((ab : Nat) : Int) - ((px t * bE (L (bx t)) (fun _ => 1) : Nat) : Int)) we := by
                    have h8 := FI_fair hFI (x := x) (by omega) (by rw [← hwe]; omega) (by rw [← hab, ← hwe, ← Int.natCast_mul]; omega)
                    rwa [← hab, ← hwe] at h8
                  refine lv_goto (tgt := 131) X.1 X.2.1 dX11_fair_93 (by decide) ?_
                  refine lv_aload_n X.1 X.2.1 dX11_fair_131 rfl (lv_at hl 1 rfl) ?_
                  refine x_bipush X (by decide) dX11_fair_132 ?_
                  refine lv_lload X.1 X.2.1 dX11_fair_134 (lv_at hl 5 rfl) ?_
                  refine lv_lload_n X.1 X.2.1 dX11_fair_136 rfl (lv_at hl 4 rfl) ?_
                  refine x_lsub X dX11_fair_137 ?_
                  refine x_cv (x_runV (k := 2) (As := [.int (iI (10)), .long (lI ((((ab : Nat) : Int)) - (((px t * bE (L (bx t)) (fun _ => 1) : Nat) : Int))))]) (rest := []) X hW (c_X11_set l E A n _ g1 i (10) q N ((((ab : Nat) : Int)) - (((px t * bE (L (bx t)) (fun _ => 1) : Nat) : Int))) hi hO (by omega) hN (by omega) (by omega)) (by omega) hO rfl gX11_fair_X11_set rfl rfl rfl (by decide +kernel) ⟨by decide, by decide⟩ rfl hl.1 rfl (Nat.le_of_ble_eq_true rfl) dX11_fair_138 ⟨Nat.zero_le _, Nat.zero_le _⟩) hW (fun g_138 H locs hp_138 hW => ?_)
                  obtain ⟨hN, hf_138⟩ := hp_138
                  have hfr : ∀ j, j ≠ i + 1 → g_138 j = g j := fun j hj => (hf_138 j hj).trans (hfr j hj)
                  have hO : g_138 i = .inr (11, [.ref (A (i + 1)), .ref (A (i + 2)), .ref (A (i + 3)), .ref (A (i + 4)), .int (iI (q 0)), .ref (A (i + 5)), .ref (A (i + 6)), .ref (A (i + 7)), .ref (A (i + 8)), .int (iI (q 1)), .ref (A (i + 9)), .ref (A (i + 10)), .ref (A (i + 11)), .int (iI (q 2)), .ref (A (i + 12)), .ref (A (i + 13)), .int (iI (q 3)), .ref (A (i + 14)), .ref (A (i + 15)), .ref (A (i + 16)), .int (iI (q 4))]) := by rw [hf_138 _ (by omega)]; exact hO
                  have h5 : g_138 (i + 5) = aI E 16 f5 := by rw [hf_138 _ (by omega)]; exact h5
                  have h6 : g_138 (i + 6) = aI E 128 f6 := by rw [hf_138 _ (by omega)]; exact h6
                  have h7 : g_138 (i + 7) = aI E 128 f7 := by rw [hf_138 _ (by omega)]; exact h7
                  have h8 : g_138 (i + 8) = aI E 16 f8 := by rw [hf_138 _ (by omega)]; exact h8
                  have h14 : g_138 (i + 14) = aI E 6 fx := by rw [hf_138 _ (by omega)]; exact h14
                  have h15 : g_138 (i + 15) = aI E 6 fp := by rw [hf_138 _ (by omega)]; exact h15
                  refine lv_aload_n X.1 X.2.1 dX11_fair_141 rfl (lv_at hl 1 rfl) ?_
                  refine x_bipush X (by decide) dX11_fair_142 ?_
                  refine lv_lload X.1 X.2.1 dX11_fair_144 (lv_at hl 6 rfl) ?_
                  refine x_cv (x_runV (k := 2) (As := [.int (iI (11)), .long (lI (((we : Nat) : Int)))]) (rest := []) X hW (c_X11_set l E A n _ g_138 i (11) q (va_up N (10) ((((ab : Nat) : Int)) - (((px t * bE (L (bx t)) (fun _ => 1) : Nat) : Int)))) (((we : Nat) : Int)) hi hO (by omega) hN (by omega) (by omega)) (by omega) hO rfl gX11_fair_X11_set rfl rfl rfl (by decide +kernel) ⟨by decide, by decide⟩ rfl hl.1 rfl (Nat.le_of_ble_eq_true rfl) dX11_fair_146 ⟨Nat.zero_le _, Nat.zero_le _⟩) hW (fun g_146 H locs hp_146 hW => ?_)
                  obtain ⟨hN, hf_146⟩ := hp_146
                  have hfr : ∀ j, j ≠ i + 1 → g_146 j = g j := fun j hj => (hf_146 j hj).trans (hfr j hj)
                  have hO : g_146 i = .inr (11, [.ref (A (i + 1)), .ref (A (i + 2)), .ref (A (i + 3)), .ref (A (i + 4)), .int (iI (q 0)), .ref (A (i + 5)), .ref (A (i + 6)), .ref (A (i + 7)), .ref (A (i + 8)), .int (iI (q 1)), .ref (A (i + 9)), .ref (A (i + 10)), .ref (A (i + 11)), .int (iI (q 2)), .ref (A (i + 12)), .ref (A (i + 13)), .int (iI (q 3)), .ref (A (i + 14)), .ref (A (i + 15)), .ref (A (i + 16)), .int (iI (q 4))]) := by rw [hf_146 _ (by omega)]; exact hO
                  have h5 : g_146 (i + 5) = aI E 16 f5 := by rw [hf_146 _ (by omega)]; exact h5
                  have h6 : g_146 (i + 6) = aI E 128 f6 := by rw [hf_146 _ (by omega)]; exact h6
                  have h7 : g_146 (i + 7) = aI E 128 f7 := by rw [hf_146 _ (by omega)]; exact h7
                  have h8 : g_146 (i + 8) = aI E 16 f8 := by rw [hf_146 _ (by omega)]; exact h8
                  have h14 : g_146 (i + 14) = aI E 6 fx := by rw [hf_146 _ (by omega)]; exact h14
                  have h15 : g_146 (i + 15) = aI E 6 fp := by rw [hf_146 _ (by omega)]; exact h15
                  refine lv_aload_n X.1 X.2.1 dX11_fair_149 rfl (lv_at hl 1 rfl) ?_
                  refine x_bipush X (by decide) dX11_fair_150 ?_
                  refine x_bipush X (by decide) dX11_fair_152 ?_
                  refine x_cv (x_runV (k := 2) (As := [.int (iI (10)), .int (iI (11))]) (rest := []) X hW (c_X11_result l E A n _ g_146 i 10 11 q (va_up (va_up N (10) ((((ab : Nat) : Int)) - (((px t * bE (L (bx t)) (fun _ => 1) : Nat) : Int)))) (11) (((we : Nat) : Int))) ((((ab : Nat) : Int)) - (((px t * bE (L (bx t)) (fun _ => 1) : Nat) : Int))) _ hi hO (by omega) (by omega) (by omega) (by omega) hN (by rw [va_up_ne _ _ (by omega), va_up_self]) (va_up_self _ _ _) hF.1 (by omega) (by omega) (by omega)) (by omega) hO rfl gX11_fair_X11_result rfl rfl rfl (by decide +kernel) ⟨by decide, by decide⟩ rfl hl.1 rfl (Nat.le_of_ble_eq_true rfl) dX11_fair_154 ⟨Nat.zero_le _, Nat.zero_le _⟩) hW (fun g_154 H locs hp_154 hW => ?_)
                  obtain ⟨⟨N_154, hN, v_0, v_1, ho8_154⟩, hf_154⟩ := hp_154
                  have hfr : ∀ j, j ≠ i + 1 → g_154 j = g j := fun j hj => (hf_154 j hj).trans (hfr j hj)
                  have hO : g_154 i = .inr (11, [.ref (A (i + 1)), .ref (A (i + 2)), .ref (A (i + 3)), .ref (A (i + 4)), .int (iI (q 0)), .ref (A (i + 5)), .ref (A (i + 6)), .ref (A (i + 7)), .ref (A (i + 8)), .int (iI (q 1)), .ref (A (i + 9)), .ref (A (i + 10)), .ref (A (i + 11)), .int (iI (q 2)), .ref (A (i + 12)), .ref (A (i + 13)), .int (iI (q 3)), .ref (A (i + 14)), .ref (A (i + 15)), .ref (A (i + 16)), .int (iI (q 4))]) := by rw [hf_154 _ (by omega)]; exact hO
                  have h5 : g_154 (i + 5) = aI E 16 f5 := by rw [hf_154 _ (by omega)]; exact h5
                  have h6 : g_154 (i + 6) = aI E 128 f6 := by rw [hf_154 _ (by omega)]; exact h6
                  have h7 : g_154 (i + 7) = aI E 128 f7 := by rw [hf_154 _ (by omega)]; exact h7
                  have h8 : g_154 (i + 8) = aI E 16 f8 := by rw [hf_154 _ (by omega)]; exact h8
                  have h14 : g_154 (i + 14) = aI E 6 fx := by rw [hf_154 _ (by omega)]; exact h14
                  have h15 : g_154 (i + 15) = aI E 6 fp := by rw [hf_154 _ (by omega)]; exact h15
                  refine x_iconst X dX11_fair_157 ?_
                  exact x_zret X hr hlk (by decide) hW (⟨by rw [if_pos (by omega)], fun _ => by rw [← ht]; exact ⟨_, _, hF, ⟨_, hN, v_0, v_1⟩⟩, fun h => absurd (show 0 ≤ z ∧ z < (xz : Int) by omega) h, hfr⟩) dX11_fair_158
            · have hm0 : bMass (L (bx t)) x = 0 := by omega
              refine lv_goto (tgt := 125) X.1 X.2.1 dX11_fair_69 (by decide) ?_
              refine lv_iinc (v := iI ((x : Int) - 1)) (lv' := [(9, .int (iI ((x : Int) - 1))), (10, .int (iI (((bMass (L (bx t)) x : Nat) : Int)))), (0, .ref (A (i))), (1, .int (iI (z))), (2, .int (iI (((bx t : Nat) : Int)))), (3, .long (lI (((px t * bE (L (bx t)) (fun _ => 1) : Nat) : Int)))), (5, .long (lI (((ab : Nat) : Int)))), (7, .long (lI (((we : Nat) : Int))))]) X.1 X.2.1 dX11_fair_125 hl (k := 7) rfl (by rw [show (Int32.ofInt (-1)) = iI (-1) from rfl, iI_add]; congr 1; omega) (by decide) rfl (fun ls hl => ?_)
              refine lv_goto (tgt := 48) X.1 X.2.1 dX11_fair_128 (by decide) ?_
              exact ih_48 x ab we g1 _ _ _ (by omega) (by omega) (by rw [← hab2, hm0, Nat.mul_zero, Nat.add_zero]) (by rw [← hwe2, hm0, Nat.add_zero]) (FI_skip (by rw [← hx]; exact hFI) hm0) (fun h9 => by rw [← hwe2, hm0, Nat.add_zero, hwe]; exact hp0 h9) hgg hW (lv_sub hl [2, 3, 4, 5, 6, 7, 0] rfl)
      exact loop_48 _ 1001 0 0 g _ _ _ (Nat.lt_succ_self _) (Nat.le_refl _) (gath_top hok).symm (ge_top hok).symm (FI_none (ge_top hok)) (fun _ => ge_top hok) rfl hW (lv_sub hl [5, 6, 4, 3, 2, 1, 0] rfl)
    · refine x_iconst X dX11_fair_12 ?_
      exact x_zret X hr hlk (by decide) hW (⟨by rw [if_neg (by omega)], fun h => absurd h (by omega), fun _ => rfl, fun _ _ => rfl⟩) dX11_fair_13
