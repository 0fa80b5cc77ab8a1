/-! ===== the reference: weights of a book, the worth of bars ===== -/
theorem bE_step : ∀ (L : List (Nat × Nat)) (t : Nat), t < L.length → ∀ f : Nat → Nat, bE (L.take (t + 1)) f = bE (L.take t) f + (L.getD t (0, 0)).2 * f (L.getD t (0, 0)).1
  | [], t, h, f => absurd h (Nat.not_lt_zero _)
  | q :: L, 0, h, f => by
    show q.2 * f q.1 + 0 = 0 + q.2 * f q.1
    omega
  | q :: L, t + 1, h, f => by
    have e := bE_step L t (Nat.lt_of_succ_lt_succ h) f
    show q.2 * f q.1 + bE (L.take (t + 1)) f = q.2 * f q.1 + bE (L.take t) f + (L.getD t (0, 0)).2 * f (L.getD t (0, 0)).1
    rw [e, Nat.add_assoc]
def bIn (L : List (Nat × Nat)) (lo hh : Int) : Nat := bE L (fun x => if lo ≤ (x : Int) ∧ (x : Int) ≤ hh then 1 else 0)
theorem bIn_yes {L : List (Nat × Nat)} {t : Nat} {lo hh : Int} (h : t < L.length) (h1 : lo ≤ (((L.getD t (0, 0)).1 : Nat) : Int)) (h2 : (((L.getD t (0, 0)).1 : Nat) : Int) ≤ hh) : ((bIn (L.take t) lo hh : Nat) : Int) + (((L.getD t (0, 0)).2 : Nat) : Int) = ((bIn (L.take (t + 1)) lo hh : Nat) : Int) := by
  unfold bIn
  rw [bE_step L t h, if_pos ⟨h1, h2⟩]
  omega
theorem bIn_no {L : List (Nat × Nat)} {t : Nat} {lo hh : Int} (h : t < L.length) (h1 : ¬ (lo ≤ (((L.getD t (0, 0)).1 : Nat) : Int) ∧ (((L.getD t (0, 0)).1 : Nat) : Int) ≤ hh)) : ((bIn (L.take t) lo hh : Nat) : Int) + 0 = ((bIn (L.take (t + 1)) lo hh : Nat) : Int) := by
  unfold bIn
  rw [bE_step L t h, if_neg h1]
  omega
theorem bE_same {L : List (Nat × Nat)} {f h : Nat → Nat} (e : ∀ x, f x = h x) : bE L f = bE L h := by
  rw [show f = h from funext e]
theorem bIn_below (L : List (Nat × Nat)) (b : Int) : bIn L 0 (b - 1) = bBelow L b := by
  unfold bIn bBelow
  apply bE_same
  intro x
  by_cases h : (x : Int) < b
  · rw [if_pos h, if_pos ⟨by omega, by omega⟩]
  · rw [if_neg h, if_neg (by omega)]
theorem gath_yes {L : List (Nat × Nat)} {u : Nat} (h : u < L.length) {b : Int} (hb : b ≤ (((L.getD u (0, 0)).1 : Nat) : Int)) : bGath (L.take (u + 1)) b = bGath (L.take u) b + (L.getD u (0, 0)).2 * (L.getD u (0, 0)).1 := by
  unfold bGath
  rw [bE_step L u h, if_pos hb]
theorem gath_no {L : List (Nat × Nat)} {u : Nat} (h : u < L.length) {b : Int} (hb : ¬ b ≤ (((L.getD u (0, 0)).1 : Nat) : Int)) : bGath (L.take (u + 1)) b = bGath (L.take u) b := by
  unfold bGath
  rw [bE_step L u h, if_neg hb, Nat.mul_zero, Nat.add_zero]
theorem bE_take_le (L : List (Nat × Nat)) (f : Nat → Nat) : ∀ d t, t + d = L.length → bE (L.take t) f ≤ bE L f := by
  intro d
  induction d with
  | zero => intro t ht; rw [show t = L.length from by omega, List.take_length]; exact Nat.le_refl _
  | succ d ih => intro t ht; exact Nat.le_trans (by rw [bE_step L t (by omega)]; exact Nat.le_add_right _ _) (ih (t + 1) (by omega))
def bOK (L : List (Nat × Nat)) : Prop := L.length ≤ 8 ∧ ∀ k, k < L.length → (L.getD k (0, 0)).1 ≤ 1000 ∧ (L.getD k (0, 0)).2 ≤ 1000
theorem bE_cap {L : List (Nat × Nat)} (h : bOK L) {f : Nat → Nat} {M : Nat} (hf : ∀ x, x ≤ 1000 → f x ≤ M) : bE L f ≤ 8000 * M := by
  have hs : ∀ t, t ≤ L.length → bE (L.take t) f ≤ t * (1000 * M) := by
    intro t
    induction t with
    | zero => intro _; exact Nat.zero_le _
    | succ t ih =>
      intro ht
      rw [bE_step L t (by omega), Nat.add_mul, Nat.one_mul]
      have q := h.2 t (by omega)
      exact Nat.add_le_add (ih (by omega)) (Nat.mul_le_mul q.2 (hf _ q.1))
  have e := hs L.length (Nat.le_refl _)
  rw [List.take_length] at e
  refine Nat.le_trans e (Nat.le_trans (Nat.mul_le_mul_right _ h.1) ?_)
  rw [← Nat.mul_assoc]; exact Nat.le_refl _
theorem bOK_tot {L : List (Nat × Nat)} (h : bOK L) : bE L (fun _ => 1) ≤ 8000 := Nat.le_trans (bE_cap h (M := 1) (fun _ _ => Nat.le_refl _)) (by decide)
theorem bOK_below {L : List (Nat × Nat)} (h : bOK L) (b : Int) : bBelow L b ≤ 8000 := Nat.le_trans (bE_cap h (M := 1) (fun x _ => by split <;> omega)) (by decide)
theorem bOK_gath {L : List (Nat × Nat)} (h : bOK L) (b : Int) : bGath L b ≤ 8000000 := Nat.le_trans (bE_cap h (M := 1000) (fun x _ => by split <;> omega)) (by decide)
def LkM (L : Nat → List (Nat × Nat)) (co : Nat → Nat) : Nat → List (Nat × Nat) := fun k => L (co k)
def lwB (br : Nat → Nat) (z : Int) (k : Nat) : Nat := if z = -1 then br k else z.toNat
theorem lwB_none (br : Nat → Nat) : lwB br (-1) = br := funext (fun k => if_pos rfl)
theorem foA_pos {Lk : Nat → List (Nat × Nat)} {cz : Nat} (ht : ∀ k, k < cz → 0 < bE (Lk k) (fun _ => 1)) : ∀ d, d ≤ cz → 0 < foA Lk cz d := by
  intro d
  induction d with
  | zero => intro _; exact Nat.one_pos
  | succ d ih => intro hd; exact Nat.mul_pos (ih (by omega)) (ht _ (by omega))
/-- the reference's result: its top and its bottom -/
def MR (E : wE) (A : Nat → Nat) (g : Nat → va_E) (i : Nat) (tz : Int) (bz : Nat) : Prop := ∃ N : Nat → Int, MN E A g i N ∧ N 0 = tz ∧ N 1 = (bz : Int)

set_option maxHeartbeats 4000000 in
set_option maxRecDepth 100000 in
/-- weightOf -/
theorem c_X11_weightOf (l : Launch) (E : wE) (A : Nat → Nat) (n sz : Nat) (g : Nat → va_E) (i : Nat) (q : Nat → Int) (bk : Nat) (L : Nat → List (Nat × Nat)) (b : Nat) (lo hh : Int) (hi : i + 16 < n) (hO : g i = mO A i q) (hB : BooksM E A g i bk L) (hb : b < bk) (hlo : I32 lo) (hhh : I32 hh) : Met l yX11_weightOf wsX11_weightOf ({ frames := 1, cells := 0, slots := 0, locals := 60 } : Room) (va_Pc [.ref (A (i)), .int (iI ((b : Int))), .int (iI (lo)), .int (iI (hh))] (wPre E A n sz g)) (va_Qi (fun r g' => r = iI ((bIn (L b) lo hh : Nat) : Int) ∧ g' = g) (wAt E A n) (wF A n sz)) 0 0 (wF A n sz) := by
  refine x_met (cc := cX11_weightOf) (maxL := 6) (ret := (some .int)) [.ref (A (i)), .int (iI ((b : Int))), .int (iI (lo)), .int (iI (hh))] (by decide) rfl (Nat.le_of_ble_eq_true rfl) ?_
  intro p e s m below meth c ls X hr hlk hnm hsz hW hl
  have hl : lv_has ls 6 [(0, .ref (A (i))), (1, .int (iI ((b : Int)))), (2, .int (iI (lo))), (3, .int (iI (hh)))] := hl
  have lk_0 : ∀ w ∈ wsX110, w ∈ wsX11_weightOf := by decide +kernel
  have lk_1 : Cond.fieldLink RX11 24 (TX11 5).1 (TX11 5).2.1 (TX11 5).2.2.1 ∈ wsX11_weightOf := by decide +kernel
  have lk_2 : Cond.fieldLink RX11 27 (TX11 6).1 (TX11 6).2.1 (TX11 6).2.2.1 ∈ wsX11_weightOf := by decide +kernel
  have lk_3 : Cond.fieldLink RX11 30 (TX11 7).1 (TX11 7).2.1 (TX11 7).2.2.1 ∈ wsX11_weightOf := by decide +kernel
  have hO : g i = .inr (11, [.ref (A (i + 1)), .ref (A (i + 2)), .ref (A (i + 3)), .ref (A (i + 4)), .int (iI (q 0)), .ref (A (i + 5)), .ref (A (i + 6)), .ref (A (i + 7)), .ref (A (i + 8)), .int (iI (q 1)), .ref (A (i + 9)), .ref (A (i + 10)), .ref (A (i + 11)), .int (iI (q 2)), .ref (A (i + 12)), .ref (A (i + 13)), .int (iI (q 3)), .ref (A (i + 14)), .ref (A (i + 15)), .ref (A (i + 16)), .int (iI (q 4))]) := hO
  have hBo := hB
  obtain ⟨f5, f6, f7, f8, h5, h6, h7, h8, hbk, hbv⟩ := hB
  have h5o := h5
  have h6o := h6
  have h7o := h7
  have h8o := h8
  obtain ⟨hb1, hb5, hb8, hb9, hbq⟩ := hbv b hb
  refine x_iconst X dX11_weightOf_0 ?_
  refine x_seti (((bIn ((L b).take 0) lo hh : Nat) : Int)) rfl ?_
  refine lv_istore (lv' := [(4, .int (iI (((bIn ((L b).take 0) lo hh : Nat) : Int)))), (0, .ref (A (i))), (1, .int (iI ((b : Int)))), (2, .int (iI (lo))), (3, .int (iI (hh)))]) X.1 X.2.1 dX11_weightOf_1 hl (by decide) rfl (fun ls hl => ?_)
  refine x_bipush X (by decide) dX11_weightOf_3 ?_
  refine lv_iload_n X.1 X.2.1 dX11_weightOf_5 rfl (lv_at hl 2 rfl) ?_
  refine x_imul X dX11_weightOf_6 ?_
  refine x_seti (((8 * b + 0 : Nat) : Int)) (by omega) ?_
  refine lv_istore (lv' := [(5, .int (iI (((8 * b + 0 : Nat) : Int)))), (4, .int (iI (((bIn ((L b).take 0) lo hh : Nat) : Int)))), (0, .ref (A (i))), (1, .int (iI ((b : Int)))), (2, .int (iI (lo))), (3, .int (iI (hh)))]) X.1 X.2.1 dX11_weightOf_7 hl (by decide) rfl (fun ls hl => ?_)
  have loop_9 : ∀ (fuel : Nat) (t : Nat) (gw : Nat → va_E) (H : Heap) (locs : List Loc) (ls : Array Slot), ((L b).length - t) < fuel → (t ≤ (L b).length) → (gw = g) → wH E (wF A n sz) A n s gw H locs → lv_has ls 6 [(0, .ref (A (i))), (1, .int (iI ((b : Int)))), (2, .int (iI (lo))), (3, .int (iI (hh))), (4, .int (iI (((bIn ((L b).take t) lo hh : Nat) : Int)))), (5, .int (iI (((8 * b + t : Nat) : Int))))] → W p l e ({ frames := 1, cells := 0, slots := 0, locals := 60 } : Room) s m [.ref (A (i)), .int (iI ((b : Int))), .int (iI (lo)), .int (iI (hh))].toArray below meth c H locs 0 0 (MQ below (va_Qi (fun r g' => r = iI ((bIn (L b) lo hh : Nat) : Int) ∧ g' = g) (wAt E A n) (wF A n sz)) [.ref (A (i)), .int (iI ((b : Int))), .int (iI (lo)), .int (iI (hh))].toArray s 0 0 (wF A n sz)) (F0 m 9 ls []) := by
    intro fuel
    induction fuel with
    | zero => intro t gw H locs ls hm; exact absurd hm (Nat.not_lt_zero _)
    | succ fuel ih_9 =>
      intro t gw H locs ls hm ht hgg hW hl
      have hO : gw i = .inr (11, [.ref (A (i + 1)), .ref (A (i + 2)), .ref (A (i + 3)), .ref (A (i + 4)), .int (iI (q 0)), .ref (A (i + 5)), .ref (A (i + 6)), .ref (A (i + 7)), .ref (A (i + 8)), .int (iI (q 1)), .ref (A (i + 9)), .ref (A (i + 10)), .ref (A (i + 11)), .int (iI (q 2)), .ref (A (i + 12)), .ref (A (i + 13)), .int (iI (q 3)), .ref (A (i + 14)), .ref (A (i + 15)), .ref (A (i + 16)), .int (iI (q 4))]) := by rw [hgg]; exact hO
      have h5 : gw (i + 5) = aI E 16 f5 := by rw [hgg]; exact h5
      have h6 : gw (i + 6) = aI E 128 f6 := by rw [hgg]; exact h6
      have h7 : gw (i + 7) = aI E 128 f7 := by rw [hgg]; exact h7
      have h8 : gw (i + 8) = aI E 16 f8 := by rw [hgg]; exact h8
      refine lv_iload X.1 X.2.1 dX11_weightOf_9 (lv_at hl 5 rfl) ?_
      refine x_bipush X (by decide) dX11_weightOf_11 ?_
      refine lv_iload_n X.1 X.2.1 dX11_weightOf_13 rfl (lv_at hl 1 rfl) ?_
      refine x_imul X dX11_weightOf_14 ?_
      refine lv_aload_n X.1 X.2.1 dX11_weightOf_15 rfl (lv_at hl 0 rfl) ?_
      refine x_get (C := RX11) (T := TX11) (N := 21) X hW (by omega) hO rfl lk_0 5 (by decide) lk_1 rfl dX11_weightOf_16 ?_
      refine lv_iload_n X.1 X.2.1 dX11_weightOf_19 rfl (lv_at hl 1 rfl) ?_
      refine x_iald X hW (by omega) h5 (v := iI ((((L b).length : Nat) : Int))) b (by omega) (by omega) (by decide) hb5 dX11_weightOf_20 ?_
      refine x_iadd X dX11_weightOf_21 ?_
      refine x_icmp_ge (tgt := 69) X ⟨by omega, by omega⟩ ⟨by omega, by omega⟩ dX11_weightOf_22 (by decide) (fun b_22 => ?_) (fun b_22 => ?_)
      · refine lv_iload X.1 X.2.1 dX11_weightOf_69 (lv_at hl 4 rfl) ?_
        exact x_iret X hr hlk hW (⟨by rw [show t = (L b).length from by omega, List.take_length], hgg⟩) dX11_weightOf_71
      · have ht2 : t < (L b).length := by omega
        obtain ⟨q6, q7, q8, q9⟩ := hbq t ht2
        refine lv_iload X.1 X.2.1 dX11_weightOf_25 (lv_at hl 4 rfl) ?_
        refine lv_aload_n X.1 X.2.1 dX11_weightOf_27 rfl (lv_at hl 0 rfl) ?_
        refine x_get (C := RX11) (T := TX11) (N := 21) X hW (by omega) hO rfl lk_0 6 (by decide) lk_2 rfl dX11_weightOf_28 ?_
        refine lv_iload X.1 X.2.1 dX11_weightOf_31 (lv_at hl 5 rfl) ?_
        refine x_iald X hW (by omega) h6 (v := iI (((((((L b)).getD t (0, 0)).1 : Nat)) : Int))) (8 * b + t) (by omega) (by omega) (by decide) q6 dX11_weightOf_33 ?_
        refine lv_iload_n X.1 X.2.1 dX11_weightOf_34 rfl (lv_at hl 2 rfl) ?_
        refine x_icmp_lt (tgt := 59) X ⟨by omega, by omega⟩ hlo dX11_weightOf_35 (by decide) (fun b_35 => ?_) (fun b_35 => ?_)
        · refine x_iconst X dX11_weightOf_59 ?_
          refine x_iadd X dX11_weightOf_60 ?_
          refine x_seti (((bIn ((L b).take (t + 1)) lo hh : Nat) : Int)) (by first | exact bIn_yes (by omega) (by omega) (by omega) | exact bIn_no (by omega) (by omega)) ?_
          refine lv_istore (lv' := [(4, .int (iI (((bIn ((L b).take (t + 1)) lo hh : Nat) : Int)))), (0, .ref (A (i))), (1, .int (iI ((b : Int)))), (2, .int (iI (lo))), (3, .int (iI (hh))), (5, .int (iI (((8 * b + t : Nat) : Int))))]) X.1 X.2.1 dX11_weightOf_61 hl (by decide) rfl (fun ls hl => ?_)
          refine lv_iinc (v := iI (((8 * b + (t + 1) : Nat) : Int))) (lv' := [(5, .int (iI (((8 * b + (t + 1) : Nat) : Int)))), (4, .int (iI (((bIn ((L b).take (t + 1)) lo hh : Nat) : Int)))), (0, .ref (A (i))), (1, .int (iI ((b : Int)))), (2, .int (iI (lo))), (3, .int (iI (hh)))]) X.1 X.2.1 dX11_weightOf_63 hl (k := 5) rfl (by rw [show (Int32.ofInt (1)) = iI (1) from rfl, iI_add]; first | rfl | (congr 1; omega)) (by decide) rfl (fun ls hl => ?_)
          refine lv_goto (tgt := 9) X.1 X.2.1 dX11_weightOf_66 (by decide) ?_
          exact ih_9 (t + 1) gw _ _ _ (by omega) (by omega) hgg hW (lv_sub hl [2, 3, 4, 5, 1, 0] rfl)
        · refine lv_aload_n X.1 X.2.1 dX11_weightOf_38 rfl (lv_at hl 0 rfl) ?_
          refine x_get (C := RX11) (T := TX11) (N := 21) X hW (by omega) hO rfl lk_0 6 (by decide) lk_2 rfl dX11_weightOf_39 ?_
          refine lv_iload X.1 X.2.1 dX11_weightOf_42 (lv_at hl 5 rfl) ?_
          refine x_iald X hW (by omega) h6 (v := iI (((((((L b)).getD t (0, 0)).1 : Nat)) : Int))) (8 * b + t) (by omega) (by omega) (by decide) q6 dX11_weightOf_44 ?_
          refine lv_iload_n X.1 X.2.1 dX11_weightOf_45 rfl (lv_at hl 3 rfl) ?_
          refine x_icmp_gt (tgt := 59) X ⟨by omega, by omega⟩ hhh dX11_weightOf_46 (by decide) (fun b_46 => ?_) (fun b_46 => ?_)
          · refine x_iconst X dX11_weightOf_59 ?_
            refine x_iadd X dX11_weightOf_60 ?_
            refine x_seti (((bIn ((L b).take (t + 1)) lo hh : Nat) : Int)) (by first | exact bIn_yes (by omega) (by omega) (by omega) | exact bIn_no (by omega) (by omega)) ?_
            refine lv_istore (lv' := [(4, .int (iI (((bIn ((L b).take (t + 1)) lo hh : Nat) : Int)))), (0, .ref (A (i))), (1, .int (iI ((b : Int)))), (2, .int (iI (lo))), (3, .int (iI (hh))), (5, .int (iI (((8 * b + t : Nat) : Int))))]) X.1 X.2.1 dX11_weightOf_61 hl (by decide) rfl (fun ls hl => ?_)
            refine lv_iinc (v := iI (((8 * b + (t + 1) : Nat) : Int))) (lv' := [(5, .int (iI (((8 * b + (t + 1) : Nat) : Int)))), (4, .int (iI (((bIn ((L b).take (t + 1)) lo hh : Nat) : Int)))), (0, .ref (A (i))), (1, .int (iI ((b : Int)))), (2, .int (iI (lo))), (3, .int (iI (hh)))]) X.1 X.2.1 dX11_weightOf_63 hl (k := 5) rfl (by rw [show (Int32.ofInt (1)) = iI (1) from rfl, iI_add]; first | rfl | (congr 1; omega)) (by decide) rfl (fun ls hl => ?_)
            refine lv_goto (tgt := 9) X.1 X.2.1 dX11_weightOf_66 (by decide) ?_
            exact ih_9 (t + 1) gw _ _ _ (by omega) (by omega) hgg hW (lv_sub hl [2, 3, 4, 5, 1, 0] rfl)
          · refine lv_aload_n X.1 X.2.1 dX11_weightOf_49 rfl (lv_at hl 0 rfl) ?_
            refine x_get (C := RX11) (T := TX11) (N := 21) X hW (by omega) hO rfl lk_0 7 (by decide) lk_3 rfl dX11_weightOf_50 ?_
            refine lv_iload X.1 X.2.1 dX11_weightOf_53 (lv_at hl 5 rfl) ?_
            refine x_iald X hW (by omega) h7 (v := iI (((((((L b)).getD t (0, 0)).2 : Nat)) : Int))) (8 * b + t) (by omega) (by omega) (by decide) q7 dX11_weightOf_55 ?_
            refine lv_goto (tgt := 60) X.1 X.2.1 dX11_weightOf_56 (by decide) ?_
            refine x_iadd X dX11_weightOf_60 ?_
            refine x_seti (((bIn ((L b).take (t + 1)) lo hh : Nat) : Int)) (by first | exact bIn_yes (by omega) (by omega) (by omega) | exact bIn_no (by omega) (by omega)) ?_
            refine lv_istore (lv' := [(4, .int (iI (((bIn ((L b).take (t + 1)) lo hh : Nat) : Int)))), (0, .ref (A (i))), (1, .int (iI ((b : Int)))), (2, .int (iI (lo))), (3, .int (iI (hh))), (5, .int (iI (((8 * b + t : Nat) : Int))))]) X.1 X.2.1 dX11_weightOf_61 hl (by decide) rfl (fun ls hl => ?_)
            refine lv_iinc (v := iI (((8 * b + (t + 1) : Nat) : Int))) (lv' := [(5, .int (iI (((8 * b + (t + 1) : Nat) : Int)))), (4, .int (iI (((bIn ((L b).take (t + 1)) lo hh : Nat) : Int)))), (0, .ref (A (i))), (1, .int (iI ((b : Int)))), (2, .int (iI (lo))), (3, .int (iI (hh)))]) X.1 X.2.1 dX11_weightOf_63 hl (k := 5) rfl (by rw [show (Int32.ofInt (1)) = iI (1) from rfl, iI_add]; first | rfl | (congr 1; omega)) (by decide) rfl (fun ls hl => ?_)
            refine lv_goto (tgt := 9) X.1 X.2.1 dX11_weightOf_66 (by decide) ?_
            exact ih_9 (t + 1) gw _ _ _ (by omega) (by omega) hgg hW (lv_sub hl [2, 3, 4, 5, 1, 0] rfl)
  exact loop_9 _ 0 g _ _ _ (Nat.lt_succ_self _) (Nat.zero_le _) rfl hW (lv_sub hl [2, 3, 4, 5, 1, 0] rfl)

set_option maxHeartbeats 4000000 in
set_option maxRecDepth 100000 in
/-- worthOf -/
theorem c_X11_worthOf (l : Launch) (E : wE) (A : Nat → Nat) (n sz : Nat) (g : Nat → va_E) (i : Nat) (q : Nat → Int) (N : Nat → Int) (bk : Nat) (L : Nat → List (Nat × Nat)) (cz : Nat) (co br : Nat → Nat) (z : Int) (hi : i + 16 < n) (hO : g i = mO A i q) (hN : MN E A g i N) (hB : BooksM E A g i bk L) (hq1 : q 1 = (cz : Int)) (hC : ComM E A g i bk cz co br) (hz1 : -1 ≤ z) (hz2 : z ≤ 1001) : Met l yX11_worthOf wsX11_worthOf ({ frames := 4, cells := 0, slots := 0, locals := 160 } : Room) (va_Pc [.ref (A (i)), .int (iI (z))] (wPre E A n sz g)) (va_Qv (fun g' => (∃ N' : Nat → Int, MN E A g' i N' ∧ N' 2 = ((foM (LkM L co) (lwB br z) cz cz : Nat) : Int) ∧ N' 3 = ((foA (LkM L co) cz cz : Nat) : Int) ∧ ∀ x, (x ≠ 2 ∧ x ≠ 3) → N' x = N x) ∧ ∀ j, j ≠ i + 1 → g' j = g j) (wAt E A n) (wF A n sz)) 0 0 (wF A n sz) := by
  refine x_met (cc := cX11_worthOf) (maxL := 6) (ret := none) [.ref (A (i)), .int (iI (z))] (by decide) rfl (Nat.le_of_ble_eq_true rfl) ?_
  intro p e s m below meth c ls X hr hlk hnm hsz hW hl
  have hl : lv_has ls 6 [(0, .ref (A (i))), (1, .int (iI (z)))] := hl
  have lk_0 : ∀ w ∈ wsX110, w ∈ wsX11_worthOf := by decide +kernel
  have lk_1 : Cond.fieldLink RX11 127 (TX11 9).1 (TX11 9).2.1 (TX11 9).2.2.1 ∈ wsX11_worthOf := by decide +kernel
  have lk_2 : Cond.fieldLink RX11 36 (TX11 10).1 (TX11 10).2.1 (TX11 10).2.2.1 ∈ wsX11_worthOf := by decide +kernel
  have lk_3 : Cond.fieldLink RX11 24 (TX11 5).1 (TX11 5).2.1 (TX11 5).2.2.1 ∈ wsX11_worthOf := by decide +kernel
  have lk_4 : Cond.fieldLink RX11 33 (TX11 8).1 (TX11 8).2.1 (TX11 8).2.2.1 ∈ wsX11_worthOf := by decide +kernel
  have lk_5 : Cond.fieldLink RX11 27 (TX11 6).1 (TX11 6).2.1 (TX11 6).2.2.1 ∈ wsX11_worthOf := by decide +kernel
  have lk_6 : Cond.fieldLink RX11 30 (TX11 7).1 (TX11 7).2.1 (TX11 7).2.2.1 ∈ wsX11_worthOf := by decide +kernel
  have lk_7 : Cond.fieldLink RX11 39 (TX11 11).1 (TX11 11).2.1 (TX11 11).2.2.1 ∈ wsX11_worthOf := by decide +kernel
  have hO : g i = .inr (11, [.ref (A (i + 1)), .ref (A (i + 2)), .ref (A (i + 3)), .ref (A (i + 4)), .int (iI (q 0)), .ref (A (i + 5)), .ref (A (i + 6)), .ref (A (i + 7)), .ref (A (i + 8)), .int (iI (q 1)), .ref (A (i + 9)), .ref (A (i + 10)), .ref (A (i + 11)), .int (iI (q 2)), .ref (A (i + 12)), .ref (A (i + 13)), .int (iI (q 3)), .ref (A (i + 14)), .ref (A (i + 15)), .ref (A (i + 16)), .int (iI (q 4))]) := hO
  have hOg := hO
  have hfr : ∀ j, j ≠ i + 1 → g j = g j := fun _ _ => rfl
  have hoth : ∀ x, (x ≠ 2 ∧ x ≠ 3) → N x = N x := fun _ _ => rfl
  have hBo := hB
  obtain ⟨f5, f6, f7, f8, h5, h6, h7, h8, hbk, hbv⟩ := hB
  have h5o := h5
  have h6o := h6
  have h7o := h7
  have h8o := h8
  have hCo := hC
  obtain ⟨f9, f10, h9, h10, hc10, hcv⟩ := hC
  have h9o := h9
  have h10o := h10
  have hcap0 : ∀ k, k < cz → bE (LkM L co k) (fun _ => 1) ≤ 8000 ∧ (∀ b : Int, bBelow (LkM L co k) b ≤ 8000) ∧ ∀ b : Int, bGath (LkM L co k) b ≤ 8000000 := fun k hk => by
    have hk2 := (hcv k hk).1
    have ho : bOK (L (co k)) := ⟨(hbv _ hk2).1, fun u hu => ((hbv _ hk2).2.2.2.2 u hu).2.2⟩
    exact ⟨bOK_tot ho, fun b => bOK_below ho b, fun b => bOK_gath ho b⟩
  refine lv_aload_n X.1 X.2.1 dX11_worthOf_0 rfl (lv_at hl 0 rfl) ?_
  refine x_iconst X dX11_worthOf_1 ?_
  refine x_lconst X 0 (by decide) dX11_worthOf_2 ?_
  refine x_cv (x_runV (k := 2) (As := [.int (iI (2)), .long (lI (0))]) (rest := []) X hW (c_X11_set l E A n _ g i (2) q N (0) hi hO (by omega) hN (by decide) (by decide)) (by omega) hO rfl gX11_worthOf_X11_set rfl rfl rfl (by decide +kernel) ⟨by decide, by decide⟩ rfl hl.1 rfl (Nat.le_of_ble_eq_true rfl) dX11_worthOf_3 ⟨Nat.zero_le _, Nat.zero_le _⟩) hW (fun g_3 H locs hp_3 hW => ?_)
  obtain ⟨hN, hf_3⟩ := hp_3
  obtain ⟨N_3, hN_3⟩ : ∃ N9 : Nat → Int, N9 = va_up N 2 (0) := ⟨_, rfl⟩
  rw [← hN_3] at hN
  have hO : g_3 i = .inr (11, [.ref (A (i + 1)), .ref (A (i + 2)), .ref (A (i + 3)), .ref (A (i + 4)), .int (iI (q 0)), .ref (A (i + 5)), .ref (A (i + 6)), .ref (A (i + 7)), .ref (A (i + 8)), .int (iI (q 1)), .ref (A (i + 9)), .ref (A (i + 10)), .ref (A (i + 11)), .int (iI (q 2)), .ref (A (i + 12)), .ref (A (i + 13)), .int (iI (q 3)), .ref (A (i + 14)), .ref (A (i + 15)), .ref (A (i + 16)), .int (iI (q 4))]) := by rw [hf_3 _ (by omega)]; exact hO
  have h5 : g_3 (i + 5) = aI E 16 f5 := by rw [hf_3 _ (by omega)]; exact h5
  have h6 : g_3 (i + 6) = aI E 128 f6 := by rw [hf_3 _ (by omega)]; exact h6
  have h7 : g_3 (i + 7) = aI E 128 f7 := by rw [hf_3 _ (by omega)]; exact h7
  have h8 : g_3 (i + 8) = aI E 16 f8 := by rw [hf_3 _ (by omega)]; exact h8
  have h9 : g_3 (i + 9) = aI E 10 f9 := by rw [hf_3 _ (by omega)]; exact h9
  have h10 : g_3 (i + 10) = aI E 10 f10 := by rw [hf_3 _ (by omega)]; exact h10
  have v_2 : N_3 2 = 0 := by rw [hN_3, va_up_self]
  have hoth : ∀ x, (x ≠ 2 ∧ x ≠ 3) → N_3 x = N x := fun x hx => (congrFun hN_3 x).trans ((va_up_ne _ _ (by omega)).trans (hoth x hx))
  have hfr : ∀ j, j ≠ i + 1 → g_3 j = g j := fun j hj => (hf_3 j hj).trans (hfr j hj)
  refine lv_aload_n X.1 X.2.1 dX11_worthOf_6 rfl (lv_at hl 0 rfl) ?_
  refine x_iconst X dX11_worthOf_7 ?_
  refine x_lconst X 1 (by decide) dX11_worthOf_8 ?_
  refine x_cv (x_runV (k := 2) (As := [.int (iI (3)), .long (lI (1))]) (rest := []) X hW (c_X11_set l E A n _ g_3 i (3) q N_3 (1) hi hO (by omega) hN (by decide) (by decide)) (by omega) hO rfl gX11_worthOf_X11_set rfl rfl rfl (by decide +kernel) ⟨by decide, by decide⟩ rfl hl.1 rfl (Nat.le_of_ble_eq_true rfl) dX11_worthOf_9 ⟨Nat.zero_le _, Nat.zero_le _⟩) hW (fun g_9 H locs hp_9 hW => ?_)
  obtain ⟨hN, hf_9⟩ := hp_9
  obtain ⟨N_9, hN_9⟩ : ∃ N9 : Nat → Int, N9 = va_up N_3 3 (1) := ⟨_, rfl⟩
  rw [← hN_9] at hN
  have hO : g_9 i = .inr (11, [.ref (A (i + 1)), .ref (A (i + 2)), .ref (A (i + 3)), .ref (A (i + 4)), .int (iI (q 0)), .ref (A (i + 5)), .ref (A (i + 6)), .ref (A (i + 7)), .ref (A (i + 8)), .int (iI (q 1)), .ref (A (i + 9)), .ref (A (i + 10)), .ref (A (i + 11)), .int (iI (q 2)), .ref (A (i + 12)), .ref (A (i + 13)), .int (iI (q 3)), .ref (A (i + 14)), .ref (A (i + 15)), .ref (A (i + 16)), .int (iI (q 4))]) := by rw [hf_9 _ (by omega)]; exact hO
  have h5 : g_9 (i + 5) = aI E 16 f5 := by rw [hf_9 _ (by omega)]; exact h5
  have h6 : g_9 (i + 6) = aI E 128 f6 := by rw [hf_9 _ (by omega)]; exact h6
  have h7 : g_9 (i + 7) = aI E 128 f7 := by rw [hf_9 _ (by omega)]; exact h7
  have h8 : g_9 (i + 8) = aI E 16 f8 := by rw [hf_9 _ (by omega)]; exact h8
  have h9 : g_9 (i + 9) = aI E 10 f9 := by rw [hf_9 _ (by omega)]; exact h9
  have h10 : g_9 (i + 10) = aI E 10 f10 := by rw [hf_9 _ (by omega)]; exact h10
  have v_3 : N_9 3 = 1 := by rw [hN_9, va_up_self]
  have v_2 : N_9 2 = 0 := by rw [hN_9, va_up_ne _ _ (by omega)]; exact v_2
  have hoth : ∀ x, (x ≠ 2 ∧ x ≠ 3) → N_9 x = N x := fun x hx => (congrFun hN_9 x).trans ((va_up_ne _ _ (by omega)).trans (hoth x hx))
  have hfr : ∀ j, j ≠ i + 1 → g_9 j = g j := fun j hj => (hf_9 j hj).trans (hfr j hj)
  refine lv_aload_n X.1 X.2.1 dX11_worthOf_12 rfl (lv_at hl 0 rfl) ?_
  refine x_get (C := RX11) (T := TX11) (N := 21) X hW (by omega) hO rfl lk_0 9 (by decide) lk_1 rfl dX11_worthOf_13 ?_
  refine x_seti ((cz : Int)) hq1 ?_
  refine x_iconst X dX11_worthOf_16 ?_
  refine x_isub X dX11_worthOf_17 ?_
  refine x_seti ((cz : Int) - 1 - ((0 : Nat) : Int)) (by omega) ?_
  refine lv_istore_n (lv' := [(2, .int (iI ((cz : Int) - 1 - ((0 : Nat) : Int)))), (0, .ref (A (i))), (1, .int (iI (z)))]) X.1 X.2.1 dX11_worthOf_18 rfl hl (by decide) rfl (fun ls hl => ?_)
  have loop_19 : ∀ (fuel : Nat) (d : Nat) (N1 : Nat → Int) (g1 : Nat → va_E) (H : Heap) (locs : List Loc) (ls : Array Slot), (cz - d) < fuel → (d ≤ cz) → (MN E A g1 i N1) → (N1 2 = ((foM (LkM L co) (lwB br z) cz d : Nat) : Int)) → (N1 3 = ((foA (LkM L co) cz d : Nat) : Int)) → (∀ x, (x ≠ 2 ∧ x ≠ 3) → N1 x = N x) → (∀ j, j ≠ i + 1 → g1 j = g j) → wH E (wF A n sz) A n s g1 H locs → lv_has ls 6 [(0, .ref (A (i))), (1, .int (iI (z))), (2, .int (iI ((cz : Int) - 1 - (d : Int))))] → W p l e ({ frames := 4, cells := 0, slots := 0, locals := 160 } : Room) s m [.ref (A (i)), .int (iI (z))].toArray below meth c H locs 0 0 (MQ below (va_Qv (fun g' => (∃ N' : Nat → Int, MN E A g' i N' ∧ N' 2 = ((foM (LkM L co) (lwB br z) cz cz : Nat) : Int) ∧ N' 3 = ((foA (LkM L co) cz cz : Nat) : Int) ∧ ∀ x, (x ≠ 2 ∧ x ≠ 3) → N' x = N x) ∧ ∀ j, j ≠ i + 1 → g' j = g j) (wAt E A n) (wF A n sz)) [.ref (A (i)), .int (iI (z))].toArray s 0 0 (wF A n sz)) (F0 m 19 ls []) := by
    intro fuel
    induction fuel with
    | zero => intro d N1 g1 H locs ls hm; exact absurd hm (Nat.not_lt_zero _)
    | succ fuel ih_19 =>
      intro d N1 g1 H locs ls hm hd hN v_2 v_3 hoth hfr hW hl
      have hO : g1 i = .inr (11, [.ref (A (i + 1)), .ref (A (i + 2)), .ref (A (i + 3)), .ref (A (i + 4)), .int (iI (q 0)), .ref (A (i + 5)), .ref (A (i + 6)), .ref (A (i + 7)), .ref (A (i + 8)), .int (iI (q 1)), .ref (A (i + 9)), .ref (A (i + 10)), .ref (A (i + 11)), .int (iI (q 2)), .ref (A (i + 12)), .ref (A (i + 13)), .int (iI (q 3)), .ref (A (i + 14)), .ref (A (i + 15)), .ref (A (i + 16)), .int (iI (q 4))]) := (hfr _ (by omega)).trans hOg
      have h5 : g1 (i + 5) = aI E 16 f5 := (hfr _ (by omega)).trans h5o
      have h6 : g1 (i + 6) = aI E 128 f6 := (hfr _ (by omega)).trans h6o
      have h7 : g1 (i + 7) = aI E 128 f7 := (hfr _ (by omega)).trans h7o
      have h8 : g1 (i + 8) = aI E 16 f8 := (hfr _ (by omega)).trans h8o
      have h9 : g1 (i + 9) = aI E 10 f9 := (hfr _ (by omega)).trans h9o
      have h10 : g1 (i + 10) = aI E 10 f10 := (hfr _ (by omega)).trans h10o
      refine lv_iload_n X.1 X.2.1 dX11_worthOf_19 rfl (lv_at hl 2 rfl) ?_
      refine x_if_lt (tgt := 144) X ⟨by omega, by omega⟩ dX11_worthOf_20 (by decide) (fun b_20 => ?_) (fun b_20 => ?_)
      · rw [show d = cz from by omega] at v_2 v_3
        exact x_vret X hr hlk hW (⟨⟨N1, hN, v_2, v_3, hoth⟩, hfr⟩) dX11_worthOf_144
      · obtain ⟨t, ht⟩ : ∃ t, cz = t + 1 + d := ⟨cz - 1 - d, by omega⟩
        have et : cz - 1 - d = t := by omega
        obtain ⟨hc1, hc2, hc3, hc4⟩ := hcv t (by omega)
        obtain ⟨hb1, hb5, hb8, hb9, hbq⟩ := hbv (co t) hc1
        have hlw : lwB br z t ≤ 1001 := by unfold lwB; split <;> omega
        have hkc := hcap0 t (by omega)
        have hbb : bBelow (L (co t)) ((lwB br z t : Nat) : Int) ≤ 8000 := hkc.2.1 _
        have hMs : foM (LkM L co) (lwB br z) cz (d + 1) = foM (LkM L co) (lwB br z) cz d * bBelow (L (co t)) ((lwB br z t : Nat) : Int) + foA (LkM L co) cz d * bGath (L (co t)) ((lwB br z t : Nat) : Int) := by
          show foM (LkM L co) (lwB br z) cz d * bBelow (L (co (cz - 1 - d))) ((lwB br z (cz - 1 - d) : Nat) : Int) + foA (LkM L co) cz d * bGath (L (co (cz - 1 - d))) ((lwB br z (cz - 1 - d) : Nat) : Int) = _
          rw [et]
        have hAs : foA (LkM L co) cz (d + 1) = foA (LkM L co) cz d * bE (L (co t)) (fun _ => 1) := by
          show foA (LkM L co) cz d * bE (L (co (cz - 1 - d))) (fun _ => 1) = _
          rw [et]
        have hM1 := foM_le (br := (lwB br z)) hcap0 (d + 1) (by omega)
        have hA1 := foA_le (fun k hk => (hcap0 k hk).1) (d + 1) (by omega)
        have hpc := pow_cap (d := d + 1) (by omega)
        have ht8 : bE (L (co t)) (fun _ => 1) ≤ 8000 := hkc.1
        refine lv_aload_n X.1 X.2.1 dX11_worthOf_23 rfl (lv_at hl 0 rfl) ?_
        refine x_get (C := RX11) (T := TX11) (N := 21) X hW (by omega) hO rfl lk_0 10 (by decide) lk_2 rfl dX11_worthOf_24 ?_
        refine lv_iload_n X.1 X.2.1 dX11_worthOf_27 rfl (lv_at hl 2 rfl) ?_
        refine x_iald X hW (by omega) h9 (v := iI (((co t : Nat) : Int))) t (by omega) (by omega) (by decide) hc3 dX11_worthOf_28 ?_
        refine lv_istore_n (lv' := [(3, .int (iI (((co t : Nat) : Int)))), (0, .ref (A (i))), (1, .int (iI (z))), (2, .int (iI ((cz : Int) - 1 - (d : Int))))]) X.1 X.2.1 dX11_worthOf_29 rfl hl (by decide) rfl (fun ls hl => ?_)
        refine lv_iload_n X.1 X.2.1 dX11_worthOf_30 rfl (lv_at hl 2 rfl) ?_
        refine x_iconst X dX11_worthOf_31 ?_
        refine x_icmp_ne (tgt := 44) X ⟨by omega, by omega⟩ ⟨by decide, by decide⟩ dX11_worthOf_32 (by decide) (fun b_32 => ?_) (fun b_32 => ?_)
        · refine lv_iload_n X.1 X.2.1 dX11_worthOf_44 rfl (lv_at hl 2 rfl) ?_
          refine x_seti (((lwB br z t : Nat) : Int)) (by unfold lwB; first | rw [if_pos (by omega)] | (rw [if_neg (by omega)]; omega)) ?_
          refine lv_istore (lv' := [(4, .int (iI (((lwB br z t : Nat) : Int)))), (3, .int (iI (((co t : Nat) : Int)))), (0, .ref (A (i))), (1, .int (iI (z))), (2, .int (iI ((cz : Int) - 1 - (d : Int))))]) X.1 X.2.1 dX11_worthOf_45 hl (by decide) rfl (fun ls hl => ?_)
          refine lv_aload_n X.1 X.2.1 dX11_worthOf_47 rfl (lv_at hl 2 rfl) ?_
          refine x_iconst X dX11_worthOf_48 ?_
          refine lv_aload_n X.1 X.2.1 dX11_worthOf_49 rfl (lv_at hl 2 rfl) ?_
          refine lv_iload_n X.1 X.2.1 dX11_worthOf_50 rfl (lv_at hl 1 rfl) ?_
          refine x_iconst X dX11_worthOf_51 ?_
          refine lv_iload X.1 X.2.1 dX11_worthOf_52 (lv_at hl 0 rfl) ?_
          refine x_iconst X dX11_worthOf_54 ?_
          refine x_isub X dX11_worthOf_55 ?_
          refine x_ci (x_runV (k := 3) (As := [.int (iI (((co t : Nat) : Int))), .int (iI (0)), .int (iI ((((lwB br z t : Nat) : Int)) - 1))]) (rest := [.int (iI (2)), .ref (A (i))]) X hW (c_X11_weightOf l E A n _ g1 i q bk L (co t) (0) (((lwB br z t : Nat) : Int) - 1) hi hO (hBo.frame (fun j a9 b9 => hfr j (by omega))) (by omega) ⟨by omega, by omega⟩ ⟨by omega, by omega⟩) (by omega) hO rfl gX11_worthOf_X11_weightOf rfl rfl rfl (by decide +kernel) ⟨by decide, by decide⟩ rfl hl.1 rfl (Nat.le_of_ble_eq_true rfl) dX11_worthOf_56 ⟨Nat.zero_le _, Nat.zero_le _⟩) hW (fun r_56 g_56 H locs hp_56 hW => ?_)
          obtain ⟨hr_56, he_56⟩ := hp_56
          rw [he_56] at hW
          subst hr_56
          refine x_seti (((bBelow (L (co t)) ((lwB br z t : Nat) : Int) : Nat) : Int)) (by rw [bIn_below]) ?_
          refine x_i2l X ⟨by omega, by omega⟩ dX11_worthOf_59 ?_
          refine x_cv (x_runV (k := 2) (As := [.int (iI (2)), .long (lI (((bBelow (L (co t)) ((lwB br z t : Nat) : Int) : Nat) : Int)))]) (rest := []) X hW (c_X11_times l E A n _ g1 i (2) q N1 (((bBelow (L (co t)) ((lwB br z t : Nat) : Int) : Nat) : Int)) hi hO (by omega) hN (by omega) (by omega) (by rw [v_2, ← Int.natCast_mul]; omega) (by rw [v_2, ← Int.natCast_mul]; omega)) (by omega) hO rfl gX11_worthOf_X11_times rfl rfl rfl (by decide +kernel) ⟨by decide, by decide⟩ rfl hl.1 rfl (Nat.le_of_ble_eq_true rfl) dX11_worthOf_60 ⟨Nat.zero_le _, Nat.zero_le _⟩) hW (fun g_60 H locs hp_60 hW => ?_)
          obtain ⟨hN, hf_60⟩ := hp_60
          obtain ⟨N_60, hN_60⟩ : ∃ N9 : Nat → Int, N9 = va_up N1 2 (N1 2 * (((bBelow (L (co t)) ((lwB br z t : Nat) : Int) : Nat) : Int))) := ⟨_, rfl⟩
          rw [← hN_60] at hN
          have hO : g_60 i = .inr (11, [.ref (A (i + 1)), .ref (A (i + 2)), .ref (A (i + 3)), .ref (A (i + 4)), .int (iI (q 0)), .ref (A (i + 5)), .ref (A (i + 6)), .ref (A (i + 7)), .ref (A (i + 8)), .int (iI (q 1)), .ref (A (i + 9)), .ref (A (i + 10)), .ref (A (i + 11)), .int (iI (q 2)), .ref (A (i + 12)), .ref (A (i + 13)), .int (iI (q 3)), .ref (A (i + 14)), .ref (A (i + 15)), .ref (A (i + 16)), .int (iI (q 4))]) := by rw [hf_60 _ (by omega)]; exact hO
          have h5 : g_60 (i + 5) = aI E 16 f5 := by rw [hf_60 _ (by omega)]; exact h5
          have h6 : g_60 (i + 6) = aI E 128 f6 := by rw [hf_60 _ (by omega)]; exact h6
          have h7 : g_60 (i + 7) = aI E 128 f7 := by rw [hf_60 _ (by omega)]; exact h7
          have h8 : g_60 (i + 8) = aI E 16 f8 := by rw [hf_60 _ (by omega)]; exact h8
          have h9 : g_60 (i + 9) = aI E 10 f9 := by rw [hf_60 _ (by omega)]; exact h9
          have h10 : g_60 (i + 10) = aI E 10 f10 := by rw [hf_60 _ (by omega)]; exact h10
          have v_2 : N_60 2 = ((foM (LkM L co) (lwB br z) cz d * bBelow (L (co t)) ((lwB br z t : Nat) : Int) : Nat) : Int) := by rw [hN_60, va_up_self, v_2, ← Int.natCast_mul]
          have v_3 : N_60 3 = ((foA (LkM L co) cz d : Nat) : Int) := by rw [hN_60, va_up_ne _ _ (by omega)]; exact v_3
          have hoth : ∀ x, (x ≠ 2 ∧ x ≠ 3) → N_60 x = N x := fun x hx => (congrFun hN_60 x).trans ((va_up_ne _ _ (by omega)).trans (hoth x hx))
          have hfr : ∀ j, j ≠ i + 1 → g_60 j = g j := fun j hj => (hf_60 j hj).trans (hfr j hj)
          refine x_bipush X (by decide) dX11_worthOf_63 ?_
          refine lv_iload_n X.1 X.2.1 dX11_worthOf_65 rfl (lv_at hl 1 rfl) ?_
          refine x_imul X dX11_worthOf_66 ?_
          refine x_seti (((8 * co t + 0 : Nat) : Int)) (by omega) ?_
          refine lv_istore (lv' := [(5, .int (iI (((8 * co t + 0 : Nat) : Int)))), (4, .int (iI (((lwB br z t : Nat) : Int)))), (3, .int (iI (((co t : Nat) : Int)))), (0, .ref (A (i))), (1, .int (iI (z))), (2, .int (iI ((cz : Int) - 1 - (d : Int))))]) X.1 X.2.1 dX11_worthOf_67 hl (by decide) rfl (fun ls hl => ?_)
          have loop_69 : ∀ (fuel : Nat) (u : Nat) (N2 : Nat → Int) (g2 : Nat → va_E) (H : Heap) (locs : List Loc) (ls : Array Slot), ((L (co t)).length - u) < fuel → (u ≤ (L (co t)).length) → (MN E A g2 i N2) → (N2 2 = ((foM (LkM L co) (lwB br z) cz d * bBelow (L (co t)) ((lwB br z t : Nat) : Int) + foA (LkM L co) cz d * bGath ((L (co t)).take u) ((lwB br z t : Nat) : Int) : Nat) : Int)) → (N2 3 = ((foA (LkM L co) cz d : Nat) : Int)) → (∀ x, (x ≠ 2 ∧ x ≠ 3) → N2 x = N x) → (∀ j, j ≠ i + 1 → g2 j = g j) → wH E (wF A n sz) A n s g2 H locs → lv_has ls 6 [(0, .ref (A (i))), (1, .int (iI (z))), (2, .int (iI ((cz : Int) - 1 - (d : Int)))), (3, .int (iI (((co t : Nat) : Int)))), (4, .int (iI (((lwB br z t : Nat) : Int)))), (5, .int (iI (((8 * co t + u : Nat) : Int))))] → W p l e ({ frames := 4, cells := 0, slots := 0, locals := 160 } : Room) s m [.ref (A (i)), .int (iI (z))].toArray below meth c H locs 0 0 (MQ below (va_Qv (fun g' => (∃ N' : Nat → Int, MN E A g' i N' ∧ N' 2 = ((foM (LkM L co) (lwB br z) cz cz : Nat) : Int) ∧ N' 3 = ((foA (LkM L co) cz cz : Nat) : Int) ∧ ∀ x, (x ≠ 2 ∧ x ≠ 3) → N' x = N x) ∧ ∀ j, j ≠ i + 1 → g' j = g j) (wAt E A n) (wF A n sz)) [.ref (A (i)), .int (iI (z))].toArray s 0 0 (wF A n sz)) (F0 m 69 ls []) := by
            intro fuel
            induction fuel with
            | zero => intro u N2 g2 H locs ls hm; exact absurd hm (Nat.not_lt_zero _)
            | succ fuel ih_69 =>
              intro u N2 g2 H locs ls hm hu hN v_2 v_3 hoth hfr hW hl
              have hO : g2 i = .inr (11, [.ref (A (i + 1)), .ref (A (i + 2)), .ref (A (i + 3)), .ref (A (i + 4)), .int (iI (q 0)), .ref (A (i + 5)), .ref (A (i + 6)), .ref (A (i + 7)), .ref (A (i + 8)), .int (iI (q 1)), .ref (A (i + 9)), .ref (A (i + 10)), .ref (A (i + 11)), .int (iI (q 2)), .ref (A (i + 12)), .ref (A (i + 13)), .int (iI (q 3)), .ref (A (i + 14)), .ref (A (i + 15)), .ref (A (i + 16)), .int (iI (q 4))]) := (hfr _ (by omega)).trans hOg
              have h5 : g2 (i + 5) = aI E 16 f5 := (hfr _ (by omega)).trans h5o
              have h6 : g2 (i + 6) = aI E 128 f6 := (hfr _ (by omega)).trans h6o
              have h7 : g2 (i + 7) = aI E 128 f7 := (hfr _ (by omega)).trans h7o
              have h8 : g2 (i + 8) = aI E 16 f8 := (hfr _ (by omega)).trans h8o
              have h9 : g2 (i + 9) = aI E 10 f9 := (hfr _ (by omega)).trans h9o
              have h10 : g2 (i + 10) = aI E 10 f10 := (hfr _ (by omega)).trans h10o
              refine lv_iload X.1 X.2.1 dX11_worthOf_69 (lv_at hl 5 rfl) ?_
              refine x_bipush X (by decide) dX11_worthOf_71 ?_
              refine lv_iload_n X.1 X.2.1 dX11_worthOf_73 rfl (lv_at hl 3 rfl) ?_
              refine x_imul X dX11_worthOf_74 ?_
              refine lv_aload_n X.1 X.2.1 dX11_worthOf_75 rfl (lv_at hl 0 rfl) ?_
              refine x_get (C := RX11) (T := TX11) (N := 21) X hW (by omega) hO rfl lk_0 5 (by decide) lk_3 rfl dX11_worthOf_76 ?_
              refine lv_iload_n X.1 X.2.1 dX11_worthOf_79 rfl (lv_at hl 3 rfl) ?_
              refine x_iald X hW (by omega) h5 (v := iI ((((L (co t)).length : Nat) : Int))) (co t) (by omega) (by omega) (by decide) hb5 dX11_worthOf_80 ?_
              refine x_iadd X dX11_worthOf_81 ?_
              refine x_icmp_ge (tgt := 126) X ⟨by omega, by omega⟩ ⟨by omega, by omega⟩ dX11_worthOf_82 (by decide) (fun b_82 => ?_) (fun b_82 => ?_)
              · have v_2 : N2 2 = ((foM (LkM L co) (lwB br z) cz (d + 1) : Nat) : Int) := by rw [v_2, hMs, show u = (L (co t)).length from by omega, List.take_length]
                refine lv_aload_n X.1 X.2.1 dX11_worthOf_126 rfl (lv_at hl 0 rfl) ?_
                refine x_iconst X dX11_worthOf_127 ?_
                refine lv_aload_n X.1 X.2.1 dX11_worthOf_128 rfl (lv_at hl 0 rfl) ?_
                refine x_get (C := RX11) (T := TX11) (N := 21) X hW (by omega) hO rfl lk_0 8 (by decide) lk_4 rfl dX11_worthOf_129 ?_
                refine lv_iload_n X.1 X.2.1 dX11_worthOf_132 rfl (lv_at hl 3 rfl) ?_
                refine x_iald X hW (by omega) h8 (v := iI (((bE (L (co t)) (fun _ => 1) : Nat) : Int))) (co t) (by omega) (by omega) (by decide) hb8 dX11_worthOf_133 ?_
                refine x_i2l X ⟨by omega, by omega⟩ dX11_worthOf_134 ?_
                refine x_cv (x_runV (k := 2) (As := [.int (iI (3)), .long (lI (((bE (L (co t)) (fun _ => 1) : Nat) : Int)))]) (rest := []) X hW (c_X11_times l E A n _ g2 i (3) q N2 (((bE (L (co t)) (fun _ => 1) : Nat) : Int)) hi hO (by omega) hN (by omega) (by omega) (by rw [v_3, ← Int.natCast_mul, ← hAs]; omega) (by rw [v_3, ← Int.natCast_mul, ← hAs]; omega)) (by omega) hO rfl gX11_worthOf_X11_times rfl rfl rfl (by decide +kernel) ⟨by decide, by decide⟩ rfl hl.1 rfl (Nat.le_of_ble_eq_true rfl) dX11_worthOf_135 ⟨Nat.zero_le _, Nat.zero_le _⟩) hW (fun g_135 H locs hp_135 hW => ?_)
                obtain ⟨hN, hf_135⟩ := hp_135
                obtain ⟨N_135, hN_135⟩ : ∃ N9 : Nat → Int, N9 = va_up N2 3 (N2 3 * (((bE (L (co t)) (fun _ => 1) : Nat) : Int))) := ⟨_, rfl⟩
                rw [← hN_135] at hN
                have hO : g_135 i = .inr (11, [.ref (A (i + 1)), .ref (A (i + 2)), .ref (A (i + 3)), .ref (A (i + 4)), .int (iI (q 0)), .ref (A (i + 5)), .ref (A (i + 6)), .ref (A (i + 7)), .ref (A (i + 8)), .int (iI (q 1)), .ref (A (i + 9)), .ref (A (i + 10)), .ref (A (i + 11)), .int (iI (q 2)), .ref (A (i + 12)), .ref (A (i + 13)), .int (iI (q 3)), .ref (A (i + 14)), .ref (A (i + 15)), .ref (A (i + 16)), .int (iI (q 4))]) := by rw [hf_135 _ (by omega)]; exact hO
                have h5 : g_135 (i + 5) = aI E 16 f5 := by rw [hf_135 _ (by omega)]; exact h5
                have h6 : g_135 (i + 6) = aI E 128 f6 := by rw [hf_135 _ (by omega)]; exact h6
                have h7 : g_135 (i + 7) = aI E 128 f7 := by rw [hf_135 _ (by omega)]; exact h7
                have h8 : g_135 (i + 8) = aI E 16 f8 := by rw [hf_135 _ (by omega)]; exact h8
                have h9 : g_135 (i + 9) = aI E 10 f9 := by rw [hf_135 _ (by omega)]; exact h9
                have h10 : g_135 (i + 10) = aI E 10 f10 := by rw [hf_135 _ (by omega)]; exact h10
                have v_3 : N_135 3 = ((foA (LkM L co) cz (d + 1) : Nat) : Int) := by rw [hN_135, va_up_self, v_3, ← Int.natCast_mul, ← hAs]
                have v_2 : N_135 2 = ((foM (LkM L co) (lwB br z) cz (d + 1) : Nat) : Int) := by rw [hN_135, va_up_ne _ _ (by omega)]; exact v_2
                have hoth : ∀ x, (x ≠ 2 ∧ x ≠ 3) → N_135 x = N x := fun x hx => (congrFun hN_135 x).trans ((va_up_ne _ _ (by omega)).trans (hoth x hx))
                have hfr : ∀ j, j ≠ i + 1 → g_135 j = g j := fun j hj => (hf_135 j hj).trans (hfr j hj)
                refine lv_iinc (v := iI ((cz : Int) - 1 - ((d + 1 : Nat) : Int))) (lv' := [(2, .int (iI ((cz : Int) - 1 - ((d + 1 : Nat) : Int)))), (0, .ref (A (i))), (1, .int (iI (z))), (3, .int (iI (((co t : Nat) : Int)))), (4, .int (iI (((lwB br z t : Nat) : Int)))), (5, .int (iI (((8 * co t + u : Nat) : Int))))]) X.1 X.2.1 dX11_worthOf_138 hl (k := 2) rfl (by rw [show (Int32.ofInt (-1)) = iI (-1) from rfl, iI_add]; congr 1; omega) (by decide) rfl (fun ls hl => ?_)
                refine lv_goto (tgt := 19) X.1 X.2.1 dX11_worthOf_141 (by decide) ?_
                exact ih_19 (d + 1) N_135 g_135 _ _ _ (by omega) (by omega) hN v_2 v_3 hoth hfr hW (lv_sub hl [1, 2, 0] rfl)
              · have hu2 : u < (L (co t)).length := by omega
                obtain ⟨q6, q7, q8, q9⟩ := hbq u hu2
                have hwx := Nat.mul_le_mul q9 q8
                refine lv_aload_n X.1 X.2.1 dX11_worthOf_85 rfl (lv_at hl 0 rfl) ?_
                refine x_get (C := RX11) (T := TX11) (N := 21) X hW (by omega) hO rfl lk_0 6 (by decide) lk_5 rfl dX11_worthOf_86 ?_
                refine lv_iload X.1 X.2.1 dX11_worthOf_89 (lv_at hl 5 rfl) ?_
                refine x_iald X hW (by omega) h6 (v := iI (((((((L (co t))).getD u (0, 0)).1 : Nat)) : Int))) (8 * co t + u) (by omega) (by omega) (by decide) q6 dX11_worthOf_91 ?_
                refine lv_iload X.1 X.2.1 dX11_worthOf_92 (lv_at hl 4 rfl) ?_
                refine x_icmp_lt (tgt := 120) X ⟨by omega, by omega⟩ ⟨by omega, by omega⟩ dX11_worthOf_94 (by decide) (fun b_94 => ?_) (fun b_94 => ?_)
                · refine lv_iinc (v := iI (((8 * co t + (u + 1) : Nat) : Int))) (lv' := [(5, .int (iI (((8 * co t + (u + 1) : Nat) : Int)))), (0, .ref (A (i))), (1, .int (iI (z))), (2, .int (iI ((cz : Int) - 1 - (d : Int)))), (3, .int (iI (((co t : Nat) : Int)))), (4, .int (iI (((lwB br z t : Nat) : Int))))]) X.1 X.2.1 dX11_worthOf_120 hl (k := 5) rfl (by rw [show (Int32.ofInt (1)) = iI (1) from rfl, iI_add]; first | rfl | (congr 1; omega)) (by decide) rfl (fun ls hl => ?_)
                  refine lv_goto (tgt := 69) X.1 X.2.1 dX11_worthOf_123 (by decide) ?_
                  exact ih_69 (u + 1) N2 g2 _ _ _ (by omega) (by omega) hN (by rw [gath_no hu2 (by omega)]; exact v_2) v_3 hoth hfr hW (lv_sub hl [1, 2, 3, 4, 5, 0] rfl)
                · have hgl : foA (LkM L co) cz d * bGath ((L (co t)).take (u + 1)) ((lwB br z t : Nat) : Int) ≤ foA (LkM L co) cz d * bGath (L (co t)) ((lwB br z t : Nat) : Int) := Nat.mul_le_mul_left _ (bE_take_le _ _ ((L (co t)).length - (u + 1)) (u + 1) (by omega))
                  have hgs : ((foM (LkM L co) (lwB br z) cz d * bBelow (L (co t)) ((lwB br z t : Nat) : Int) + foA (LkM L co) cz d * bGath ((L (co t)).take u) ((lwB br z t : Nat) : Int) : Nat) : Int) + ((foA (LkM L co) cz d : Nat) : Int) * ((((((L (co t))).getD u (0, 0)).2 : Nat) * ((((L (co t))).getD u (0, 0)).1 : Nat) : Nat) : Int) = ((foM (LkM L co) (lwB br z) cz d * bBelow (L (co t)) ((lwB br z t : Nat) : Int) + foA (LkM L co) cz d * bGath ((L (co t)).take (u + 1)) ((lwB br z t : Nat) : Int) : Nat) : Int) := by rw [gath_yes hu2 (by omega), Nat.mul_add, ← Nat.add_assoc, Int.natCast_add (_ + _), Int.natCast_mul (foA _ _ _) (_ * _)]
                  refine lv_aload_n X.1 X.2.1 dX11_worthOf_97 rfl (lv_at hl 0 rfl) ?_
                  refine x_iconst X dX11_worthOf_98 ?_
                  refine x_iconst X dX11_worthOf_99 ?_
                  refine lv_aload_n X.1 X.2.1 dX11_worthOf_100 rfl (lv_at hl 0 rfl) ?_
                  refine x_get (C := RX11) (T := TX11) (N := 21) X hW (by omega) hO rfl lk_0 7 (by decide) lk_6 rfl dX11_worthOf_101 ?_
                  refine lv_iload X.1 X.2.1 dX11_worthOf_104 (lv_at hl 5 rfl) ?_
                  refine x_iald X hW (by omega) h7 (v := iI (((((((L (co t))).getD u (0, 0)).2 : Nat)) : Int))) (8 * co t + u) (by omega) (by omega) (by decide) q7 dX11_worthOf_106 ?_
                  refine x_i2l X ⟨by omega, by omega⟩ dX11_worthOf_107 ?_
                  refine lv_aload_n X.1 X.2.1 dX11_worthOf_108 rfl (lv_at hl 0 rfl) ?_
                  refine x_get (C := RX11) (T := TX11) (N := 21) X hW (by omega) hO rfl lk_0 6 (by decide) lk_5 rfl dX11_worthOf_109 ?_
                  refine lv_iload X.1 X.2.1 dX11_worthOf_112 (lv_at hl 5 rfl) ?_
                  refine x_iald X hW (by omega) h6 (v := iI (((((((L (co t))).getD u (0, 0)).1 : Nat)) : Int))) (8 * co t + u) (by omega) (by omega) (by decide) q6 dX11_worthOf_114 ?_
                  refine x_i2l X ⟨by omega, by omega⟩ dX11_worthOf_115 ?_
                  refine x_lmul X dX11_worthOf_116 ?_
                  refine x_setl (((((((L (co t))).getD u (0, 0)).2 : Nat) * ((((L (co t))).getD u (0, 0)).1 : Nat) : Nat) : Int)) ((Int.natCast_mul _ _).symm) ?_
                  refine x_cv (x_runV (k := 3) (As := [.int (iI (2)), .int (iI (3)), .long (lI (((((((L (co t))).getD u (0, 0)).2 : Nat) * ((((L (co t))).getD u (0, 0)).1 : Nat) : Nat) : Int)))]) (rest := []) X hW (c_X11_more l E A n _ g2 i (2) (3) q N2 (((((((L (co t))).getD u (0, 0)).2 : Nat) * ((((L (co t))).getD u (0, 0)).1 : Nat) : Nat) : Int)) hi hO (by omega) (by omega) (by omega) hN (by omega) (by omega) (by rw [v_2, v_3, hgs]; omega) (by rw [v_2, v_3, hgs]; omega)) (by omega) hO rfl gX11_worthOf_X11_more rfl rfl rfl (by decide +kernel) ⟨by decide, by decide⟩ rfl hl.1 rfl (Nat.le_of_ble_eq_true rfl) dX11_worthOf_117 ⟨Nat.zero_le _, Nat.zero_le _⟩) hW (fun g_117 H locs hp_117 hW => ?_)
                  obtain ⟨hN, hf_117⟩ := hp_117
                  obtain ⟨N_117, hN_117⟩ : ∃ N9 : Nat → Int, N9 = va_up N2 2 (N2 2 + N2 3 * (((((((L (co t))).getD u (0, 0)).2 : Nat) * ((((L (co t))).getD u (0, 0)).1 : Nat) : Nat) : Int))) := ⟨_, rfl⟩
                  rw [← hN_117] at hN
                  have hO : g_117 i = .inr (11, [.ref (A (i + 1)), .ref (A (i + 2)), .ref (A (i + 3)), .ref (A (i + 4)), .int (iI (q 0)), .ref (A (i + 5)), .ref (A (i + 6)), .ref (A (i + 7)), .ref (A (i + 8)), .int (iI (q 1)), .ref (A (i + 9)), .ref (A (i + 10)), .ref (A (i + 11)), .int (iI (q 2)), .ref (A (i + 12)), .ref (A (i + 13)), .int (iI (q 3)), .ref (A (i + 14)), .ref (A (i + 15)), .ref (A (i + 16)), .int (iI (q 4))]) := by rw [hf_117 _ (by omega)]; exact hO
                  have h5 : g_117 (i + 5) = aI E 16 f5 := by rw [hf_117 _ (by omega)]; exact h5
                  have h6 : g_117 (i + 6) = aI E 128 f6 := by rw [hf_117 _ (by omega)]; exact h6
                  have h7 : g_117 (i + 7) = aI E 128 f7 := by rw [hf_117 _ (by omega)]; exact h7
                  have h8 : g_117 (i + 8) = aI E 16 f8 := by rw [hf_117 _ (by omega)]; exact h8
                  have h9 : g_117 (i + 9) = aI E 10 f9 := by rw [hf_117 _ (by omega)]; exact h9
                  have h10 : g_117 (i + 10) = aI E 10 f10 := by rw [hf_117 _ (by omega)]; exact h10
                  have v_2 : N_117 2 = ((foM (LkM L co) (lwB br z) cz d * bBelow (L (co t)) ((lwB br z t : Nat) : Int) + foA (LkM L co) cz d * bGath ((L (co t)).take (u + 1)) ((lwB br z t : Nat) : Int) : Nat) : Int) := by rw [hN_117, va_up_self, v_2, v_3, hgs]
                  have v_3 : N_117 3 = ((foA (LkM L co) cz d : Nat) : Int) := by rw [hN_117, va_up_ne _ _ (by omega)]; exact v_3
                  have hoth : ∀ x, (x ≠ 2 ∧ x ≠ 3) → N_117 x = N x := fun x hx => (congrFun hN_117 x).trans ((va_up_ne _ _ (by omega)).trans (hoth x hx))
                  have hfr : ∀ j, j ≠ i + 1 → g_117 j = g j := fun j hj => (hf_117 j hj).trans (hfr j hj)
                  refine lv_iinc (v := iI (((8 * co t + (u + 1) : Nat) : Int))) (lv' := [(5, .int (iI (((8 * co t + (u + 1) : Nat) : Int)))), (0, .ref (A (i))), (1, .int (iI (z))), (2, .int (iI ((cz : Int) - 1 - (d : Int)))), (3, .int (iI (((co t : Nat) : Int)))), (4, .int (iI (((lwB br z t : Nat) : Int))))]) X.1 X.2.1 dX11_worthOf_120 hl (k := 5) rfl (by rw [show (Int32.ofInt (1)) = iI (1) from rfl, iI_add]; first | rfl | (congr 1; omega)) (by decide) rfl (fun ls hl => ?_)
                  refine lv_goto (tgt := 69) X.1 X.2.1 dX11_worthOf_123 (by decide) ?_
                  exact ih_69 (u + 1) N_117 g_117 _ _ _ (by omega) (by omega) hN v_2 v_3 hoth hfr hW (lv_sub hl [1, 2, 3, 4, 5, 0] rfl)
          exact loop_69 _ 0 N_60 g_60 _ _ _ (Nat.lt_succ_self _) (Nat.zero_le _) hN (by rw [v_2]; show _ = ((foM (LkM L co) (lwB br z) cz d * bBelow (L (co t)) ((lwB br z t : Nat) : Int) + foA (LkM L co) cz d * 0 : Nat) : Int); rw [Nat.mul_zero, Nat.add_zero]) v_3 hoth hfr hW (lv_sub hl [3, 4, 5, 2, 1, 0] rfl)
        · refine lv_aload_n X.1 X.2.1 dX11_worthOf_35 rfl (lv_at hl 1 rfl) ?_
          refine x_get (C := RX11) (T := TX11) (N := 21) X hW (by omega) hO rfl lk_0 11 (by decide) lk_7 rfl dX11_worthOf_36 ?_
          refine lv_iload_n X.1 X.2.1 dX11_worthOf_39 rfl (lv_at hl 3 rfl) ?_
          refine x_iald X hW (by omega) h10 (v := iI (((br t : Nat) : Int))) t (by omega) (by omega) (by decide) hc4 dX11_worthOf_40 ?_
          refine lv_goto (tgt := 45) X.1 X.2.1 dX11_worthOf_41 (by decide) ?_
          refine x_seti (((lwB br z t : Nat) : Int)) (by unfold lwB; first | rw [if_pos (by omega)] | (rw [if_neg (by omega)]; omega)) ?_
          refine lv_istore (lv' := [(4, .int (iI (((lwB br z t : Nat) : Int)))), (3, .int (iI (((co t : Nat) : Int)))), (0, .ref (A (i))), (1, .int (iI (z))), (2, .int (iI ((cz : Int) - 1 - (d : Int))))]) X.1 X.2.1 dX11_worthOf_45 hl (by decide) rfl (fun ls hl => ?_)
          refine lv_aload_n X.1 X.2.1 dX11_worthOf_47 rfl (lv_at hl 2 rfl) ?_
          refine x_iconst X dX11_worthOf_48 ?_
          refine lv_aload_n X.1 X.2.1 dX11_worthOf_49 rfl (lv_at hl 2 rfl) ?_
          refine lv_iload_n X.1 X.2.1 dX11_worthOf_50 rfl (lv_at hl 1 rfl) ?_
          refine x_iconst X dX11_worthOf_51 ?_
          refine lv_iload X.1 X.2.1 dX11_worthOf_52 (lv_at hl 0 rfl) ?_
          refine x_iconst X dX11_worthOf_54 ?_
          refine x_isub X dX11_worthOf_55 ?_
          refine x_ci (x_runV (k := 3) (As := [.int (iI (((co t : Nat) : Int))), .int (iI (0)), .int (iI ((((lwB br z t : Nat) : Int)) - 1))]) (rest := [.int (iI (2)), .ref (A (i))]) X hW (c_X11_weightOf l E A n _ g1 i q bk L (co t) (0) (((lwB br z t : Nat) : Int) - 1) hi hO (hBo.frame (fun j a9 b9 => hfr j (by omega))) (by omega) ⟨by omega, by omega⟩ ⟨by omega, by omega⟩) (by omega) hO rfl gX11_worthOf_X11_weightOf rfl rfl rfl (by decide +kernel) ⟨by decide, by decide⟩ rfl hl.1 rfl (Nat.le_of_ble_eq_true rfl) dX11_worthOf_56 ⟨Nat.zero_le _, Nat.zero_le _⟩) hW (fun r_56 g_56 H locs hp_56 hW => ?_)
          obtain ⟨hr_56, he_56⟩ := hp_56
          rw [he_56] at hW
          subst hr_56
          refine x_seti (((bBelow (L (co t)) ((lwB br z t : Nat) : Int) : Nat) : Int)) (by rw [bIn_below]) ?_
          refine x_i2l X ⟨by omega, by omega⟩ dX11_worthOf_59 ?_
          refine x_cv (x_runV (k := 2) (As := [.int (iI (2)), .long (lI (((bBelow (L (co t)) ((lwB br z t : Nat) : Int) : Nat) : Int)))]) (rest := []) X hW (c_X11_times l E A n _ g1 i (2) q N1 (((bBelow (L (co t)) ((lwB br z t : Nat) : Int) : Nat) : Int)) hi hO (by omega) hN (by omega) (by omega) (by rw [v_2, ← Int.natCast_mul]; omega) (by rw [v_2, ← Int.natCast_mul]; omega)) (by omega) hO rfl gX11_worthOf_X11_times rfl rfl rfl (by decide +kernel) ⟨by decide, by decide⟩ rfl hl.1 rfl (Nat.le_of_ble_eq_true rfl) dX11_worthOf_60 ⟨Nat.zero_le _, Nat.zero_le _⟩) hW (fun g_60 H locs hp_60 hW => ?_)
          obtain ⟨hN, hf_60⟩ := hp_60
          obtain ⟨N_60, hN_60⟩ : ∃ N9 : Nat → Int, N9 = va_up N1 2 (N1 2 * (((bBelow (L (co t)) ((lwB br z t : Nat) : Int) : Nat) : Int))) := ⟨_, rfl⟩
          rw [← hN_60] at hN
          have hO : g_60 i = .inr (11, [.ref (A (i + 1)), .ref (A (i + 2)), .ref (A (i + 3)), .ref (A (i + 4)), .int (iI (q 0)), .ref (A (i + 5)), .ref (A (i + 6)), .ref (A (i + 7)), .ref (A (i + 8)), .int (iI (q 1)), .ref (A (i + 9)), .ref (A (i + 10)), .ref (A (i + 11)), .int (iI (q 2)), .ref (A (i + 12)), .ref (A (i + 13)), .int (iI (q 3)), .ref (A (i + 14)), .ref (A (i + 15)), .ref (A (i + 16)), .int (iI (q 4))]) := by rw [hf_60 _ (by omega)]; exact hO
          have h5 : g_60 (i + 5) = aI E 16 f5 := by rw [hf_60 _ (by omega)]; exact h5
          have h6 : g_60 (i + 6) = aI E 128 f6 := by rw [hf_60 _ (by omega)]; exact h6
          have h7 : g_60 (i + 7) = aI E 128 f7 := by rw [hf_60 _ (by omega)]; exact h7
          have h8 : g_60 (i + 8) = aI E 16 f8 := by rw [hf_60 _ (by omega)]; exact h8
          have h9 : g_60 (i + 9) = aI E 10 f9 := by rw [hf_60 _ (by omega)]; exact h9
          have h10 : g_60 (i + 10) = aI E 10 f10 := by rw [hf_60 _ (by omega)]; exact h10
          have v_2 : N_60 2 = ((foM (LkM L co) (lwB br z) cz d * bBelow (L (co t)) ((lwB br z t : Nat) : Int) : Nat) : Int) := by rw [hN_60, va_up_self, v_2, ← Int.natCast_mul]
          have v_3 : N_60 3 = ((foA (LkM L co) cz d : Nat) : Int) := by rw [hN_60, va_up_ne _ _ (by omega)]; exact v_3
          have hoth : ∀ x, (x ≠ 2 ∧ x ≠ 3) → N_60 x = N x := fun x hx => (congrFun hN_60 x).trans ((va_up_ne _ _ (by omega)).trans (hoth x hx))
          have hfr : ∀ j, j ≠ i + 1 → g_60 j = g j := fun j hj => (hf_60 j hj).trans (hfr j hj)
          refine x_bipush X (by decide) dX11_worthOf_63 ?_
          refine lv_iload_n X.1 X.2.1 dX11_worthOf_65 rfl (lv_at hl 1 rfl) ?_
          refine x_imul X dX11_worthOf_66 ?_
          refine x_seti (((8 * co t + 0 : Nat) : Int)) (by omega) ?_
          refine lv_istore (lv' := [(5, .int (iI (((8 * co t + 0 : Nat) : Int)))), (4, .int (iI (((lwB br z t : Nat) : Int)))), (3, .int (iI (((co t : Nat) : Int)))), (0, .ref (A (i))), (1, .int (iI (z))), (2, .int (iI ((cz : Int) - 1 - (d : Int))))]) X.1 X.2.1 dX11_worthOf_67 hl (by decide) rfl (fun ls hl => ?_)
          have loop_69 : ∀ (fuel : Nat) (u : Nat) (N2 : Nat → Int) (g2 : Nat → va_E) (H : Heap) (locs : List Loc) (ls : Array Slot), ((L (co t)).length - u) < fuel → (u ≤ (L (co t)).length) → (MN E A g2 i N2) → (N2 2 = ((foM (LkM L co) (lwB br z) cz d * bBelow (L (co t)) ((lwB br z t : Nat) : Int) + foA (LkM L co) cz d * bGath ((L (co t)).take u) ((lwB br z t : Nat) : Int) : Nat) : Int)) → (N2 3 = ((foA (LkM L co) cz d : Nat) : Int)) → (∀ x, (x ≠ 2 ∧ x ≠ 3) → N2 x = N x) → (∀ j, j ≠ i + 1 → g2 j = g j) → wH E (wF A n sz) A n s g2 H locs → lv_has ls 6 [(0, .ref (A (i))), (1, .int (iI (z))), (2, .int (iI ((cz : Int) - 1 - (d : Int)))), (3, .int (iI (((co t : Nat) : Int)))), (4, .int (iI (((lwB br z t : Nat) : Int)))), (5, .int (iI (((8 * co t + u : Nat) : Int))))] → W p l e ({ frames := 4, cells := 0, slots := 0, locals := 160 } : Room) s m [.ref (A (i)), .int (iI (z))].toArray below meth c H locs 0 0 (MQ below (va_Qv (fun g' => (∃ N' : Nat → Int, MN E A g' i N' ∧ N' 2 = ((foM (LkM L co) (lwB br z) cz cz : Nat) : Int) ∧ N' 3 = ((foA (LkM L co) cz cz : Nat) : Int) ∧ ∀ x, (x ≠ 2 ∧ x ≠ 3) → N' x = N x) ∧ ∀ j, j ≠ i + 1 → g' j = g j) (wAt E A n) (wF A n sz)) [.ref (A (i)), .int (iI (z))].toArray s 0 0 (wF A n sz)) (F0 m 69 ls []) := by
            intro fuel
            induction fuel with
            | zero => intro u N2 g2 H locs ls hm; exact absurd hm (Nat.not_lt_zero _)
            | succ fuel ih_69 =>
              intro u N2 g2 H locs ls hm hu hN v_2 v_3 hoth hfr hW hl
              have hO : g2 i = .inr (11, [.ref (A (i + 1)), .ref (A (i + 2)), .ref (A (i + 3)), .ref (A (i + 4)), .int (iI (q 0)), .ref (A (i + 5)), .ref (A (i + 6)), .ref (A (i + 7)), .ref (A (i + 8)), .int (iI (q 1)), .ref (A (i + 9)), .ref (A (i + 10)), .ref (A (i + 11)), .int (iI (q 2)), .ref (A (i + 12)), .ref (A (i + 13)), .int (iI (q 3)), .ref (A (i + 14)), .ref (A (i + 15)), .ref (A (i + 16)), .int (iI (q 4))]) := (hfr _ (by omega)).trans hOg
              have h5 : g2 (i + 5) = aI E 16 f5 := (hfr _ (by omega)).trans h5o
              have h6 : g2 (i + 6) = aI E 128 f6 := (hfr _ (by omega)).trans h6o
              have h7 : g2 (i + 7) = aI E 128 f7 := (hfr _ (by omega)).trans h7o
              have h8 : g2 (i + 8) = aI E 16 f8 := (hfr _ (by omega)).trans h8o
              have h9 : g2 (i + 9) = aI E 10 f9 := (hfr _ (by omega)).trans h9o
              have h10 : g2 (i + 10) = aI E 10 f10 := (hfr _ (by omega)).trans h10o
              refine lv_iload X.1 X.2.1 dX11_worthOf_69 (lv_at hl 5 rfl) ?_
              refine x_bipush X (by decide) dX11_worthOf_71 ?_
              refine lv_iload_n X.1 X.2.1 dX11_worthOf_73 rfl (lv_at hl 3 rfl) ?_
              refine x_imul X dX11_worthOf_74 ?_
              refine lv_aload_n X.1 X.2.1 dX11_worthOf_75 rfl (lv_at hl 0 rfl) ?_
              refine x_get (C := RX11) (T := TX11) (N := 21) X hW (by omega) hO rfl lk_0 5 (by decide) lk_3 rfl dX11_worthOf_76 ?_
              refine lv_iload_n X.1 X.2.1 dX11_worthOf_79 rfl (lv_at hl 3 rfl) ?_
              refine x_iald X hW (by omega) h5 (v := iI ((((L (co t)).length : Nat) : Int))) (co t) (by omega) (by omega) (by decide) hb5 dX11_worthOf_80 ?_
              refine x_iadd X dX11_worthOf_81 ?_
              refine x_icmp_ge (tgt := 126) X ⟨by omega, by omega⟩ ⟨by omega, by omega⟩ dX11_worthOf_82 (by decide) (fun b_82 => ?_) (fun b_82 => ?_)
              · have v_2 : N2 2 = ((foM (LkM L co) (lwB br z) cz (d + 1) : Nat) : Int) := by rw [v_2, hMs, show u = (L (co t)).length from by omega, List.take_length]
                refine lv_aload_n X.1 X.2.1 dX11_worthOf_126 rfl (lv_at hl 0 rfl) ?_
                refine x_iconst X dX11_worthOf_127 ?_
                refine lv_aload_n X.1 X.2.1 dX11_worthOf_128 rfl (lv_at hl 0 rfl) ?_
                refine x_get (C := RX11) (T := TX11) (N := 21) X hW (by omega) hO rfl lk_0 8 (by decide) lk_4 rfl dX11_worthOf_129 ?_
                refine lv_iload_n X.1 X.2.1 dX11_worthOf_132 rfl (lv_at hl 3 rfl) ?_
                refine x_iald X hW (by omega) h8 (v := iI (((bE (L (co t)) (fun _ => 1) : Nat) : Int))) (co t) (by omega) (by omega) (by decide) hb8 dX11_worthOf_133 ?_
                refine x_i2l X ⟨by omega, by omega⟩ dX11_worthOf_134 ?_
                refine x_cv (x_runV (k := 2) (As := [.int (iI (3)), .long (lI (((bE (L (co t)) (fun _ => 1) : Nat) : Int)))]) (rest := []) X hW (c_X11_times l E A n _ g2 i (3) q N2 (((bE (L (co t)) (fun _ => 1) : Nat) : Int)) hi hO (by omega) hN (by omega) (by omega) (by rw [v_3, ← Int.natCast_mul, ← hAs]; omega) (by rw [v_3, ← Int.natCast_mul, ← hAs]; omega)) (by omega) hO rfl gX11_worthOf_X11_times rfl rfl rfl (by decide +kernel) ⟨by decide, by decide⟩ rfl hl.1 rfl (Nat.le_of_ble_eq_true rfl) dX11_worthOf_135 ⟨Nat.zero_le _, Nat.zero_le _⟩) hW (fun g_135 H locs hp_135 hW => ?_)
                obtain ⟨hN, hf_135⟩ := hp_135
                obtain ⟨N_135, hN_135⟩ : ∃ N9 : Nat → Int, N9 = va_up N2 3 (N2 3 * (((bE (L (co t)) (fun _ => 1) : Nat) : Int))) := ⟨_, rfl⟩
                rw [← hN_135] at hN
                have hO : g_135 i = .inr (11, [.ref (A (i + 1)), .ref (A (i + 2)), .ref (A (i + 3)), .ref (A (i + 4)), .int (iI (q 0)), .ref (A (i + 5)), .ref (A (i + 6)), .ref (A (i + 7)), .ref (A (i + 8)), .int (iI (q 1)), .ref (A (i + 9)), .ref (A (i + 10)), .ref (A (i + 11)), .int (iI (q 2)), .ref (A (i + 12)), .ref (A (i + 13)), .int (iI (q 3)), .ref (A (i + 14)), .ref (A (i + 15)), .ref (A (i + 16)), .int (iI (q 4))]) := by rw [hf_135 _ (by omega)]; exact hO
                have h5 : g_135 (i + 5) = aI E 16 f5 := by rw [hf_135 _ (by omega)]; exact h5
                have h6 : g_135 (i + 6) = aI E 128 f6 := by rw [hf_135 _ (by omega)]; exact h6
                have h7 : g_135 (i + 7) = aI E 128 f7 := by rw [hf_135 _ (by omega)]; exact h7
                have h8 : g_135 (i + 8) = aI E 16 f8 := by rw [hf_135 _ (by omega)]; exact h8
                have h9 : g_135 (i + 9) = aI E 10 f9 := by rw [hf_135 _ (by omega)]; exact h9
                have h10 : g_135 (i + 10) = aI E 10 f10 := by rw [hf_135 _ (by omega)]; exact h10
                have v_3 : N_135 3 = ((foA (LkM L co) cz (d + 1) : Nat) : Int) := by rw [hN_135, va_up_self, v_3, ← Int.natCast_mul, ← hAs]
                have v_2 : N_135 2 = ((foM (LkM L co) (lwB br z) cz (d + 1) : Nat) : Int) := by rw [hN_135, va_up_ne _ _ (by omega)]; exact v_2
                have hoth : ∀ x, (x ≠ 2 ∧ x ≠ 3) → N_135 x = N x := fun x hx => (congrFun hN_135 x).trans ((va_up_ne _ _ (by omega)).trans (hoth x hx))
                have hfr : ∀ j, j ≠ i + 1 → g_135 j = g j := fun j hj => (hf_135 j hj).trans (hfr j hj)
                refine lv_iinc (v := iI ((cz : Int) - 1 - ((d + 1 : Nat) : Int))) (lv' := [(2, .int (iI ((cz : Int) - 1 - ((d + 1 : Nat) : Int)))), (0, .ref (A (i))), (1, .int (iI (z))), (3, .int (iI (((co t : Nat) : Int)))), (4, .int (iI (((lwB br z t : Nat) : Int)))), (5, .int (iI (((8 * co t + u : Nat) : Int))))]) X.1 X.2.1 dX11_worthOf_138 hl (k := 2) rfl (by rw [show (Int32.ofInt (-1)) = iI (-1) from rfl, iI_add]; congr 1; omega) (by decide) rfl (fun ls hl => ?_)
                refine lv_goto (tgt := 19) X.1 X.2.1 dX11_worthOf_141 (by decide) ?_
                exact ih_19 (d + 1) N_135 g_135 _ _ _ (by omega) (by omega) hN v_2 v_3 hoth hfr hW (lv_sub hl [1, 2, 0] rfl)
              · have hu2 : u < (L (co t)).length := by omega
                obtain ⟨q6, q7, q8, q9⟩ := hbq u hu2
                have hwx := Nat.mul_le_mul q9 q8
                refine lv_aload_n X.1 X.2.1 dX11_worthOf_85 rfl (lv_at hl 0 rfl) ?_
                refine x_get (C := RX11) (T := TX11) (N := 21) X hW (by omega) hO rfl lk_0 6 (by decide) lk_5 rfl dX11_worthOf_86 ?_
                refine lv_iload X.1 X.2.1 dX11_worthOf_89 (lv_at hl 5 rfl) ?_
                refine x_iald X hW (by omega) h6 (v := iI (((((((L (co t))).getD u (0, 0)).1 : Nat)) : Int))) (8 * co t + u) (by omega) (by omega) (by decide) q6 dX11_worthOf_91 ?_
                refine lv_iload X.1 X.2.1 dX11_worthOf_92 (lv_at hl 4 rfl) ?_
                refine x_icmp_lt (tgt := 120) X ⟨by omega, by omega⟩ ⟨by omega, by omega⟩ dX11_worthOf_94 (by decide) (fun b_94 => ?_) (fun b_94 => ?_)
                · refine lv_iinc (v := iI (((8 * co t + (u + 1) : Nat) : Int))) (lv' := [(5, .int (iI (((8 * co t + (u + 1) : Nat) : Int)))), (0, .ref (A (i))), (1, .int (iI (z))), (2, .int (iI ((cz : Int) - 1 - (d : Int)))), (3, .int (iI (((co t : Nat) : Int)))), (4, .int (iI (((lwB br z t : Nat) : Int))))]) X.1 X.2.1 dX11_worthOf_120 hl (k := 5) rfl (by rw [show (Int32.ofInt (1)) = iI (1) from rfl, iI_add]; first | rfl | (congr 1; omega)) (by decide) rfl (fun ls hl => ?_)
                  refine lv_goto (tgt := 69) X.1 X.2.1 dX11_worthOf_123 (by decide) ?_
                  exact ih_69 (u + 1) N2 g2 _ _ _ (by omega) (by omega) hN (by rw [gath_no hu2 (by omega)]; exact v_2) v_3 hoth hfr hW (lv_sub hl [1, 2, 3, 4, 5, 0] rfl)
                · have hgl : foA (LkM L co) cz d * bGath ((L (co t)).take (u + 1)) ((lwB br z t : Nat) : Int) ≤ foA (LkM L co) cz d * bGath (L (co t)) ((lwB br z t : Nat) : Int) := Nat.mul_le_mul_left _ (bE_take_le _ _ ((L (co t)).length - (u + 1)) (u + 1) (by omega))
                  have hgs : ((foM (LkM L co) (lwB br z) cz d * bBelow (L (co t)) ((lwB br z t : Nat) : Int) + foA (LkM L co) cz d * bGath ((L (co t)).take u) ((lwB br z t : Nat) : Int) : Nat) : Int) + ((foA (LkM L co) cz d : Nat) : Int) * ((((((L (co t))).getD u (0, 0)).2 : Nat) * ((((L (co t))).getD u (0, 0)).1 : Nat) : Nat) : Int) = ((foM (LkM L co) (lwB br z) cz d * bBelow (L (co t)) ((lwB br z t : Nat) : Int) + foA (LkM L co) cz d * bGath ((L (co t)).take (u + 1)) ((lwB br z t : Nat) : Int) : Nat) : Int) := by rw [gath_yes hu2 (by omega), Nat.mul_add, ← Nat.add_assoc, Int.natCast_add (_ + _), Int.natCast_mul (foA _ _ _) (_ * _)]
                  refine lv_aload_n X.1 X.2.1 dX11_worthOf_97 rfl (lv_at hl 0 rfl) ?_
                  refine x_iconst X dX11_worthOf_98 ?_
                  refine x_iconst X dX11_worthOf_99 ?_
                  refine lv_aload_n X.1 X.2.1 dX11_worthOf_100 rfl (lv_at hl 0 rfl) ?_
                  refine x_get (C := RX11) (T := TX11) (N := 21) X hW (by omega) hO rfl lk_0 7 (by decide) lk_6 rfl dX11_worthOf_101 ?_
                  refine lv_iload X.1 X.2.1 dX11_worthOf_104 (lv_at hl 5 rfl) ?_
                  refine x_iald X hW (by omega) h7 (v := iI (((((((L (co t))).getD u (0, 0)).2 : Nat)) : Int))) (8 * co t + u) (by omega) (by omega) (by decide) q7 dX11_worthOf_106 ?_
                  refine x_i2l X ⟨by omega, by omega⟩ dX11_worthOf_107 ?_
                  refine lv_aload_n X.1 X.2.1 dX11_worthOf_108 rfl (lv_at hl 0 rfl) ?_
                  refine x_get (C := RX11) (T := TX11) (N := 21) X hW (by omega) hO rfl lk_0 6 (by decide) lk_5 rfl dX11_worthOf_109 ?_
                  refine lv_iload X.1 X.2.1 dX11_worthOf_112 (lv_at hl 5 rfl) ?_
                  refine x_iald X hW (by omega) h6 (v := iI (((((((L (co t))).getD u (0, 0)).1 : Nat)) : Int))) (8 * co t + u) (by omega) (by omega) (by decide) q6 dX11_worthOf_114 ?_
                  refine x_i2l X ⟨by omega, by omega⟩ dX11_worthOf_115 ?_
                  refine x_lmul X dX11_worthOf_116 ?_
                  refine x_setl (((((((L (co t))).getD u (0, 0)).2 : Nat) * ((((L (co t))).getD u (0, 0)).1 : Nat) : Nat) : Int)) ((Int.natCast_mul _ _).symm) ?_
                  refine x_cv (x_runV (k := 3) (As := [.int (iI (2)), .int (iI (3)), .long (lI (((((((L (co t))).getD u (0, 0)).2 : Nat) * ((((L (co t))).getD u (0, 0)).1 : Nat) : Nat) : Int)))]) (rest := []) X hW (c_X11_more l E A n _ g2 i (2) (3) q N2 (((((((L (co t))).getD u (0, 0)).2 : Nat) * ((((L (co t))).getD u (0, 0)).1 : Nat) : Nat) : Int)) hi hO (by omega) (by omega) (by omega) hN (by omega) (by omega) (by rw [v_2, v_3, hgs]; omega) (by rw [v_2, v_3, hgs]; omega)) (by omega) hO rfl gX11_worthOf_X11_more rfl rfl rfl (by decide +kernel) ⟨by decide, by decide⟩ rfl hl.1 rfl (Nat.le_of_ble_eq_true rfl) dX11_worthOf_117 ⟨Nat.zero_le _, Nat.zero_le _⟩) hW (fun g_117 H locs hp_117 hW => ?_)
                  obtain ⟨hN, hf_117⟩ := hp_117
                  obtain ⟨N_117, hN_117⟩ : ∃ N9 : Nat → Int, N9 = va_up N2 2 (N2 2 + N2 3 * (((((((L (co t))).getD u (0, 0)).2 : Nat) * ((((L (co t))).getD u (0, 0)).1 : Nat) : Nat) : Int))) := ⟨_, rfl⟩
                  rw [← hN_117] at hN
                  have hO : g_117 i = .inr (11, [.ref (A (i + 1)), .ref (A (i + 2)), .ref (A (i + 3)), .ref (A (i + 4)), .int (iI (q 0)), .ref (A (i + 5)), .ref (A (i + 6)), .ref (A (i + 7)), .ref (A (i + 8)), .int (iI (q 1)), .ref (A (i + 9)), .ref (A (i + 10)), .ref (A (i + 11)), .int (iI (q 2)), .ref (A (i + 12)), .ref (A (i + 13)), .int (iI (q 3)), .ref (A (i + 14)), .ref (A (i + 15)), .ref (A (i + 16)), .int (iI (q 4))]) := by rw [hf_117 _ (by omega)]; exact hO
                  have h5 : g_117 (i + 5) = aI E 16 f5 := by rw [hf_117 _ (by omega)]; exact h5
                  have h6 : g_117 (i + 6) = aI E 128 f6 := by rw [hf_117 _ (by omega)]; exact h6
                  have h7 : g_117 (i + 7) = aI E 128 f7 := by rw [hf_117 _ (by omega)]; exact h7
                  have h8 : g_117 (i + 8) = aI E 16 f8 := by rw [hf_117 _ (by omega)]; exact h8
                  have h9 : g_117 (i + 9) = aI E 10 f9 := by rw [hf_117 _ (by omega)]; exact h9
                  have h10 : g_117 (i + 10) = aI E 10 f10 := by rw [hf_117 _ (by omega)]; exact h10
                  have v_2 : N_117 2 = ((foM (LkM L co) (lwB br z) cz d * bBelow (L (co t)) ((lwB br z t : Nat) : Int) + foA (LkM L co) cz d * bGath ((L (co t)).take (u + 1)) ((lwB br z t : Nat) : Int) : Nat) : Int) := by rw [hN_117, va_up_self, v_2, v_3, hgs]
                  have v_3 : N_117 3 = ((foA (LkM L co) cz d : Nat) : Int) := by rw [hN_117, va_up_ne _ _ (by omega)]; exact v_3
                  have hoth : ∀ x, (x ≠ 2 ∧ x ≠ 3) → N_117 x = N x := fun x hx => (congrFun hN_117 x).trans ((va_up_ne _ _ (by omega)).trans (hoth x hx))
                  have hfr : ∀ j, j ≠ i + 1 → g_117 j = g j := fun j hj => (hf_117 j hj).trans (hfr j hj)
                  refine lv_iinc (v := iI (((8 * co t + (u + 1) : Nat) : Int))) (lv' := [(5, .int (iI (((8 * co t + (u + 1) : Nat) : Int)))), (0, .ref (A (i))), (1, .int (iI (z))), (2, .int (iI ((cz : Int) - 1 - (d : Int)))), (3, .int (iI (((co t : Nat) : Int)))), (4, .int (iI (((lwB br z t : Nat) : Int))))]) X.1 X.2.1 dX11_worthOf_120 hl (k := 5) rfl (by rw [show (Int32.ofInt (1)) = iI (1) from rfl, iI_add]; first | rfl | (congr 1; omega)) (by decide) rfl (fun ls hl => ?_)
                  refine lv_goto (tgt := 69) X.1 X.2.1 dX11_worthOf_123 (by decide) ?_
                  exact ih_69 (u + 1) N_117 g_117 _ _ _ (by omega) (by omega) hN v_2 v_3 hoth hfr hW (lv_sub hl [1, 2, 3, 4, 5, 0] rfl)
          exact loop_69 _ 0 N_60 g_60 _ _ _ (Nat.lt_succ_self _) (Nat.zero_le _) hN (by rw [v_2]; show _ = ((foM (LkM L co) (lwB br z) cz d * bBelow (L (co t)) ((lwB br z t : Nat) : Int) + foA (LkM L co) cz d * 0 : Nat) : Int); rw [Nat.mul_zero, Nat.add_zero]) v_3 hoth hfr hW (lv_sub hl [3, 4, 5, 2, 1, 0] rfl)
  exact loop_19 _ 0 N_9 g_9 _ _ _ (Nat.lt_succ_self _) (Nat.zero_le _) hN v_2 v_3 hoth hfr hW (lv_sub hl [1, 2, 0] rfl)

set_option maxHeartbeats 4000000 in
set_option maxRecDepth 100000 in
/-- told -/
theorem c_X11_told (l : Launch) (E : wE) (A : Nat → Nat) (n sz : Nat) (g : Nat → va_E) (i : Nat) (q : Nat → Int) (N : Nat → Int) (bk : Nat) (L : Nat → List (Nat × Nat)) (cz : Nat) (co br : Nat → Nat) (hi : i + 16 < n) (hO : g i = mO A i q) (hN : MN E A g i N) (hB : BooksM E A g i bk L) (hq1 : q 1 = (cz : Int)) (hC : ComM E A g i bk cz co br) : Met l yX11_told wsX11_told ({ frames := 7, cells := 0, slots := 0, locals := 260 } : Room) (va_Pc [.ref (A (i))] (wPre E A n sz g)) (va_Qv (fun g' => MR E A g' i (rdT ((foM (LkM L co) br cz cz : Nat) : Int) (foA (LkM L co) cz cz)) (rdB ((foM (LkM L co) br cz cz : Nat) : Int) (foA (LkM L co) cz cz)) ∧ ∀ j, j ≠ i + 1 → g' j = g j) (wAt E A n) (wF A n sz)) 0 0 (wF A n sz) := by
  refine x_met (cc := cX11_told) (maxL := 1) (ret := none) [.ref (A (i))] (by decide) rfl (Nat.le_of_ble_eq_true rfl) ?_
  intro p e s m below meth c ls X hr hlk hnm hsz hW hl
  have hl : lv_has ls 1 [(0, .ref (A (i)))] := hl
  have hO : g i = .inr (11, [.ref (A (i + 1)), .ref (A (i + 2)), .ref (A (i + 3)), .ref (A (i + 4)), .int (iI (q 0)), .ref (A (i + 5)), .ref (A (i + 6)), .ref (A (i + 7)), .ref (A (i + 8)), .int (iI (q 1)), .ref (A (i + 9)), .ref (A (i + 10)), .ref (A (i + 11)), .int (iI (q 2)), .ref (A (i + 12)), .ref (A (i + 13)), .int (iI (q 3)), .ref (A (i + 14)), .ref (A (i + 15)), .ref (A (i + 16)), .int (iI (q 4))]) := hO
  have hOg := hO
  have hfr : ∀ j, j ≠ i + 1 → g j = g j := fun _ _ => rfl
  obtain ⟨f5, f6, f7, f8, h5, h6, h7, h8, hbk, hbv⟩ := id hB
  obtain ⟨f9, f10, h9, h10, hc10, hcv⟩ := id hC
  have hcap0 : ∀ k, k < cz → bE (LkM L co k) (fun _ => 1) ≤ 8000 ∧ (∀ b : Int, bBelow (LkM L co k) b ≤ 8000) ∧ ∀ b : Int, bGath (LkM L co k) b ≤ 8000000 := fun k hk => by
    have hk2 := (hcv k hk).1
    have ho : bOK (L (co k)) := ⟨(hbv _ hk2).1, fun u hu => ((hbv _ hk2).2.2.2.2 u hu).2.2⟩
    exact ⟨bOK_tot ho, fun b => bOK_below ho b, fun b => bOK_gath ho b⟩
  have hpos0 : ∀ k, k < cz → 0 < bE (LkM L co k) (fun _ => 1) := fun k hk => (hbv _ (hcv k hk).1).2.2.2.1
  have hA1 := foA_le (fun k hk => (hcap0 k hk).1) cz (Nat.le_refl _)
  have hA0 := foA_pos hpos0 cz (Nat.le_refl _)
  have hpc := pow_cap hc10
  have hM1 := foM_le (br := br) hcap0 cz (Nat.le_refl _)
  refine lv_aload_n X.1 X.2.1 dX11_told_0 rfl (lv_at hl 0 rfl) ?_
  refine x_iconst X dX11_told_1 ?_
  refine x_cv (x_runV (k := 1) (As := [.int (iI ((-1)))]) (rest := []) X hW (c_X11_worthOf l E A n _ g i q N bk L cz co br (-1) hi hO hN (hB.frame (fun j a9 b9 => hfr j (by omega))) hq1 (hC.frame (hfr _ (by omega)) (hfr _ (by omega))) (by omega) (by omega)) (by omega) hO rfl gX11_told_X11_worthOf rfl rfl rfl (by decide +kernel) ⟨by decide, by decide⟩ rfl hl.1 rfl (Nat.le_of_ble_eq_true rfl) dX11_told_2 ⟨Nat.zero_le _, Nat.zero_le _⟩) hW (fun g_2 H locs hp_2 hW => ?_)
  obtain ⟨⟨N_2, hN, v_2, v_3, ho_2⟩, hf_2⟩ := hp_2
  have hfr : ∀ j, j ≠ i + 1 → g_2 j = g j := fun j hj => (hf_2 j hj).trans (hfr j hj)
  have hO : g_2 i = .inr (11, [.ref (A (i + 1)), .ref (A (i + 2)), .ref (A (i + 3)), .ref (A (i + 4)), .int (iI (q 0)), .ref (A (i + 5)), .ref (A (i + 6)), .ref (A (i + 7)), .ref (A (i + 8)), .int (iI (q 1)), .ref (A (i + 9)), .ref (A (i + 10)), .ref (A (i + 11)), .int (iI (q 2)), .ref (A (i + 12)), .ref (A (i + 13)), .int (iI (q 3)), .ref (A (i + 14)), .ref (A (i + 15)), .ref (A (i + 16)), .int (iI (q 4))]) := by rw [hf_2 _ (by omega)]; exact hO
  rw [lwB_none] at v_2
  refine lv_aload_n X.1 X.2.1 dX11_told_5 rfl (lv_at hl 0 rfl) ?_
  refine x_bipush X (by decide) dX11_told_6 ?_
  refine x_iconst X dX11_told_8 ?_
  refine x_cv (x_runV (k := 2) (As := [.int (iI (10)), .int (iI (2))]) (rest := []) X hW (c_X11_copy l E A n _ g_2 i (10) (2) q N_2 hi hO (by omega) (by omega) (by omega) hN) (by omega) hO rfl gX11_told_X11_copy rfl rfl rfl (by decide +kernel) ⟨by decide, by decide⟩ rfl hl.1 rfl (Nat.le_of_ble_eq_true rfl) dX11_told_9 ⟨Nat.zero_le _, Nat.zero_le _⟩) hW (fun g_9 H locs hp_9 hW => ?_)
  obtain ⟨hN, hf_9⟩ := hp_9
  obtain ⟨N_9, hN_9⟩ : ∃ N9 : Nat → Int, N9 = va_up N_2 10 (N_2 (2)) := ⟨_, rfl⟩
  rw [← hN_9] at hN
  have hO : g_9 i = .inr (11, [.ref (A (i + 1)), .ref (A (i + 2)), .ref (A (i + 3)), .ref (A (i + 4)), .int (iI (q 0)), .ref (A (i + 5)), .ref (A (i + 6)), .ref (A (i + 7)), .ref (A (i + 8)), .int (iI (q 1)), .ref (A (i + 9)), .ref (A (i + 10)), .ref (A (i + 11)), .int (iI (q 2)), .ref (A (i + 12)), .ref (A (i + 13)), .int (iI (q 3)), .ref (A (i + 14)), .ref (A (i + 15)), .ref (A (i + 16)), .int (iI (q 4))]) := by rw [hf_9 _ (by omega)]; exact hO
  have v_10 : N_9 10 = ((foM (LkM L co) br cz cz : Nat) : Int) := by rw [hN_9, va_up_self, v_2]
  have v_2 : N_9 2 = ((foM (LkM L co) br cz cz : Nat) : Int) := by rw [hN_9, va_up_ne _ _ (by omega)]; exact v_2
  have v_3 : N_9 3 = ((foA (LkM L co) cz cz : Nat) : Int) := by rw [hN_9, va_up_ne _ _ (by omega)]; exact v_3
  have hfr : ∀ j, j ≠ i + 1 → g_9 j = g j := fun j hj => (hf_9 j hj).trans (hfr j hj)
  refine lv_aload_n X.1 X.2.1 dX11_told_12 rfl (lv_at hl 0 rfl) ?_
  refine x_bipush X (by decide) dX11_told_13 ?_
  refine x_iconst X dX11_told_15 ?_
  refine x_cv (x_runV (k := 2) (As := [.int (iI (11)), .int (iI (3))]) (rest := []) X hW (c_X11_copy l E A n _ g_9 i (11) (3) q N_9 hi hO (by omega) (by omega) (by omega) hN) (by omega) hO rfl gX11_told_X11_copy rfl rfl rfl (by decide +kernel) ⟨by decide, by decide⟩ rfl hl.1 rfl (Nat.le_of_ble_eq_true rfl) dX11_told_16 ⟨Nat.zero_le _, Nat.zero_le _⟩) hW (fun g_16 H locs hp_16 hW => ?_)
  obtain ⟨hN, hf_16⟩ := hp_16
  obtain ⟨N_16, hN_16⟩ : ∃ N9 : Nat → Int, N9 = va_up N_9 11 (N_9 (3)) := ⟨_, rfl⟩
  rw [← hN_16] at hN
  have hO : g_16 i = .inr (11, [.ref (A (i + 1)), .ref (A (i + 2)), .ref (A (i + 3)), .ref (A (i + 4)), .int (iI (q 0)), .ref (A (i + 5)), .ref (A (i + 6)), .ref (A (i + 7)), .ref (A (i + 8)), .int (iI (q 1)), .ref (A (i + 9)), .ref (A (i + 10)), .ref (A (i + 11)), .int (iI (q 2)), .ref (A (i + 12)), .ref (A (i + 13)), .int (iI (q 3)), .ref (A (i + 14)), .ref (A (i + 15)), .ref (A (i + 16)), .int (iI (q 4))]) := by rw [hf_16 _ (by omega)]; exact hO
  have v_11 : N_16 11 = ((foA (LkM L co) cz cz : Nat) : Int) := by rw [hN_16, va_up_self, v_3]
  have v_2 : N_16 2 = ((foM (LkM L co) br cz cz : Nat) : Int) := by rw [hN_16, va_up_ne _ _ (by omega)]; exact v_2
  have v_3 : N_16 3 = ((foA (LkM L co) cz cz : Nat) : Int) := by rw [hN_16, va_up_ne _ _ (by omega)]; exact v_3
  have v_10 : N_16 10 = ((foM (LkM L co) br cz cz : Nat) : Int) := by rw [hN_16, va_up_ne _ _ (by omega)]; exact v_10
  have hfr : ∀ j, j ≠ i + 1 → g_16 j = g j := fun j hj => (hf_16 j hj).trans (hfr j hj)
  refine lv_aload_n X.1 X.2.1 dX11_told_19 rfl (lv_at hl 0 rfl) ?_
  refine x_bipush X (by decide) dX11_told_20 ?_
  refine x_bipush X (by decide) dX11_told_22 ?_
  refine x_cv (x_runV (k := 2) (As := [.int (iI (10)), .int (iI (11))]) (rest := []) X hW (c_X11_result l E A n _ g_16 i (10) (11) q N_16 (((foM (LkM L co) br cz cz : Nat) : Int)) (foA (LkM L co) cz cz) hi hO (by omega) (by omega) (by omega) (by omega) hN v_10 v_11 hA0 (by omega) (by omega) (by omega)) (by omega) hO rfl gX11_told_X11_result rfl rfl rfl (by decide +kernel) ⟨by decide, by decide⟩ rfl hl.1 rfl (Nat.le_of_ble_eq_true rfl) dX11_told_24 ⟨Nat.zero_le _, Nat.zero_le _⟩) hW (fun g_24 H locs hp_24 hW => ?_)
  obtain ⟨⟨N_24, hN, v_0, v_1, ho8_24⟩, hf_24⟩ := hp_24
  have hfr : ∀ j, j ≠ i + 1 → g_24 j = g j := fun j hj => (hf_24 j hj).trans (hfr j hj)
  have hO : g_24 i = .inr (11, [.ref (A (i + 1)), .ref (A (i + 2)), .ref (A (i + 3)), .ref (A (i + 4)), .int (iI (q 0)), .ref (A (i + 5)), .ref (A (i + 6)), .ref (A (i + 7)), .ref (A (i + 8)), .int (iI (q 1)), .ref (A (i + 9)), .ref (A (i + 10)), .ref (A (i + 11)), .int (iI (q 2)), .ref (A (i + 12)), .ref (A (i + 13)), .int (iI (q 3)), .ref (A (i + 14)), .ref (A (i + 15)), .ref (A (i + 16)), .int (iI (q 4))]) := by rw [hf_24 _ (by omega)]; exact hO
  exact x_vret X hr hlk hW (⟨⟨_, hN, v_0, v_1⟩, hfr⟩) dX11_told_27
