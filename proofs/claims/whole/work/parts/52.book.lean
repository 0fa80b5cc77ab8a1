/-! ===== the class's Book: worths that ascend, each with its weight ===== -/
def sm (f : Nat → Nat) : Nat → Nat
  | 0 => 0
  | k + 1 => sm f k + f k
theorem sm_congr {f h : Nat → Nat} (k : Nat) (e : ∀ j, j < k → f j = h j) : sm f k = sm h k := by
  induction k with
  | zero => rfl
  | succ k ih => show sm f k + f k = sm h k + h k; rw [ih (fun j hj => e j (by omega)), e k (by omega)]
theorem sm_le {f h : Nat → Nat} (k : Nat) (e : ∀ j, j < k → f j ≤ h j) : sm f k ≤ sm h k := by
  induction k with
  | zero => exact Nat.le_refl _
  | succ k ih => show sm f k + f k ≤ sm h k + h k; have := ih (fun j hj => e j (by omega)); have := e k (by omega); omega
theorem sm_mono (f : Nat → Nat) {a b : Nat} (h : a ≤ b) : sm f a ≤ sm f b := by
  induction b with
  | zero => rw [show a = 0 from by omega]; exact Nat.le_refl _
  | succ b ih =>
    by_cases e : a = b + 1
    · rw [e]; exact Nat.le_refl _
    · have := ih (by omega); show sm f a ≤ sm f b + f b; omega
theorem sm_part (f : Nat → Nat) {a b : Nat} (h : a < b) : sm f a + f a ≤ sm f b := sm_mono f (show a + 1 ≤ b from h)
theorem sm_zero {f : Nat → Nat} (k : Nat) (e : ∀ j, j < k → f j = 0) : sm f k = 0 := by
  rw [sm_congr (h := fun _ => 0) k e]
  induction k with
  | zero => rfl
  | succ k ih => show sm (fun _ => 0) k + 0 = 0; rw [ih (fun j hj => e j (by omega))]
/-- the sum over the pairs of a book, of what f says of a worth, by its weight -/
def bE (L : List (Nat × Nat)) (f : Nat → Nat) : Nat := (L.map (fun q => q.2 * f q.1)).sum
theorem bE_nil (f : Nat → Nat) : bE [] f = 0 := rfl
theorem bE_app (L : List (Nat × Nat)) (x w : Nat) (f : Nat → Nat) : bE (L ++ [(x, w)]) f = bE L f + w * f x := by
  unfold bE; rw [List.map_append, List.sum_append]; simp
def BookC (E : wE) (A : Nat → Nat) (g : Nat → va_E) (i bz : Nat) (wo we : Nat → Nat) (tot : Nat) : Prop := g i = .inr (0, [.ref (A (i + 1)), .ref (A (i + 2)), .int (iI ((bz : Int))), .int (iI ((tot : Int)))]) ∧ bz ≤ 8 ∧ ∃ f h : Nat → Int32, g (i + 1) = aI E 8 f ∧ g (i + 2) = aI E 8 h ∧ ∀ k, k < bz → f k = iI ((wo k : Nat) : Int) ∧ h k = iI ((we k : Nat) : Int)
def BookP (bz : Nat) (wo we : Nat → Nat) (tot : Nat) (L : List (Nat × Nat)) : Prop := (∀ a b, a < b → b < bz → wo a < wo b) ∧ (∀ k, k < bz → 0 < we k ∧ wo k ≤ 1000) ∧ (∀ f : Nat → Nat, sm (fun k => we k * f (wo k)) bz = bE L f) ∧ tot = bE L (fun _ => 1) ∧ tot ≤ 8000
def BookX (E : wE) (A : Nat → Nat) (g : Nat → va_E) (i : Nat) : Prop := ∃ (bz : Nat) (wo we : Nat → Nat) (tot : Nat), BookC E A g i bz wo we tot
def BookV (E : wE) (A : Nat → Nat) (g : Nat → va_E) (i : Nat) (L : List (Nat × Nat)) : Prop := ∃ (bz : Nat) (wo we : Nat → Nat) (tot : Nat), BookC E A g i bz wo we tot ∧ BookP bz wo we tot L
theorem BookC.frame {E : wE} {A : Nat → Nat} {g g' : Nat → va_E} {i bz : Nat} {wo we : Nat → Nat} {tot : Nat} (h : BookC E A g i bz wo we tot) (h0 : g' i = g i) (h1 : g' (i + 1) = g (i + 1)) (h2 : g' (i + 2) = g (i + 2)) : BookC E A g' i bz wo we tot := by
  obtain ⟨a, b, f, hh, c, d, e⟩ := h
  exact ⟨h0.trans a, b, f, hh, h1.trans c, h2.trans d, e⟩
theorem BookV.frame {E : wE} {A : Nat → Nat} {g g' : Nat → va_E} {i : Nat} {L : List (Nat × Nat)} (h : BookV E A g i L) (h0 : g' i = g i) (h1 : g' (i + 1) = g (i + 1)) (h2 : g' (i + 2) = g (i + 2)) : BookV E A g' i L := by
  obtain ⟨bz, wo, we, tot, a, b⟩ := h
  exact ⟨bz, wo, we, tot, a.frame h0 h1 h2, b⟩
theorem BookX.frame {E : wE} {A : Nat → Nat} {g g' : Nat → va_E} {i : Nat} (h : BookX E A g i) (h0 : g' i = g i) (h1 : g' (i + 1) = g (i + 1)) (h2 : g' (i + 2) = g (i + 2)) : BookX E A g' i := by
  obtain ⟨bz, wo, we, tot, a⟩ := h
  exact ⟨bz, wo, we, tot, a.frame h0 h1 h2⟩
theorem BookV.any {E : wE} {A : Nat → Nat} {g : Nat → va_E} {i : Nat} {L : List (Nat × Nat)} (h : BookV E A g i L) : BookX E A g i := by
  obtain ⟨bz, wo, we, tot, a, _⟩ := h
  exact ⟨bz, wo, we, tot, a⟩
theorem we_le {bz : Nat} {wo we : Nat → Nat} {tot : Nat} {L : List (Nat × Nat)} (h : BookP bz wo we tot L) {k : Nat} (hk : k < bz) : we k ≤ 8000 := by
  have h1 := h.2.2.1 (fun _ => 1)
  have h2 := sm_part (fun k => we k * 1) hk
  have h3 := h.2.2.2.1
  have h4 := h.2.2.2.2
  have h5 : we k * 1 = we k := Nat.mul_one _
  omega

set_option maxHeartbeats 4000000 in
set_option maxRecDepth 100000 in
/-- total -/
theorem c_X0_total (l : Launch) (E : wE) (A : Nat → Nat) (n sz : Nat) (g : Nat → va_E) (i : Nat) (L : List (Nat × Nat)) (hi : i + 2 < n) (hV : BookV E A g i L) : Met l yX0_total wsX0_total ({ frames := 1, cells := 0, slots := 0, locals := 30 } : Room) (va_Pc [.ref (A (i))] (wPre E A n sz g)) (va_Qi (fun r g' => r = iI ((bE L (fun _ => 1) : Nat) : Int) ∧ g' = g) (wAt E A n) (wF A n sz)) 0 0 (wF A n sz) := by
  refine x_met (cc := cX0_total) (maxL := 1) (ret := (some .int)) [.ref (A (i))] (by decide) rfl (Nat.le_of_ble_eq_true rfl) ?_
  intro p e s m below meth c ls X hr hlk hnm hsz hW hl
  have hl : lv_has ls 1 [(0, .ref (A (i)))] := hl
  have lk_0 : ∀ w ∈ wsX00, w ∈ wsX0_total := by decide +kernel
  have lk_1 : Cond.fieldLink RX0 22 (TX0 3).1 (TX0 3).2.1 (TX0 3).2.2.1 ∈ wsX0_total := by decide +kernel
  obtain ⟨bz, wo, we, tot, ⟨h0, hs8, f, h, h1, h2, hf⟩, hp⟩ := hV
  refine lv_aload_n X.1 X.2.1 dX0_total_0 rfl (lv_at hl 0 rfl) ?_
  refine x_get (C := RX0) (T := TX0) (N := 4) X hW (by omega) h0 rfl lk_0 3 (by decide) lk_1 rfl dX0_total_1 ?_
  exact x_iret X hr hlk hW (⟨by rw [hp.2.2.2.1], rfl⟩) dX0_total_4

/-- the weight of the worths below a bar; what the worths from a bar on come to -/
def bBelow (L : List (Nat × Nat)) (b : Int) : Nat := bE L (fun x => if (x : Int) < b then 1 else 0)
def bGath (L : List (Nat × Nat)) (b : Int) : Nat := bE L (fun x => if b ≤ (x : Int) then x else 0)
theorem asc_le {bz : Nat} {wo : Nat → Nat} (h : ∀ a b, a < b → b < bz → wo a < wo b) {a b : Nat} (hab : a ≤ b) (hb : b < bz) : wo a ≤ wo b := by
  by_cases e : a = b
  · rw [e]; exact Nat.le_refl _
  · exact Nat.le_of_lt (h a b (by omega) hb)
theorem sm_stop {f : Nat → Nat} {a b : Nat} (h : a ≤ b) (e : ∀ j, a ≤ j → j < b → f j = 0) : sm f b = sm f a := by
  induction b with
  | zero => rw [show a = 0 from by omega]
  | succ b ih =>
    by_cases q : a = b + 1
    · rw [q]
    · show sm f b + f b = _
      rw [ih (by omega) (fun j h1 h2 => e j h1 (by omega)), e b (by omega) (by omega)]; rfl
theorem bE_le_tot {bz : Nat} {wo we : Nat → Nat} {tot : Nat} {L : List (Nat × Nat)} (hp : BookP bz wo we tot L) {f : Nat → Nat} {M : Nat} (h : ∀ k, k < bz → f (wo k) ≤ M) (j : Nat) (hj : j ≤ bz) : sm (fun k => we k * f (wo k)) j ≤ M * 8000 := by
  have h1 : sm (fun k => we k * f (wo k)) j ≤ sm (fun k => M * (we k * 1)) j := sm_le j (fun k hk => by
    show we k * f (wo k) ≤ M * (we k * 1)
    rw [Nat.mul_one, Nat.mul_comm]; exact Nat.mul_le_mul_right _ (h k (by omega)))
  have h2 : ∀ j, sm (fun k => M * (we k * 1)) j = M * sm (fun k => we k * 1) j := fun j => by
    induction j with
    | zero => rfl
    | succ j ih => show sm _ j + _ = M * (sm _ j + _); rw [ih, Nat.mul_add]
  have h3 := sm_mono (fun k => we k * 1) hj
  have h4 : sm (fun k => we k * 1) bz = bE L (fun _ => 1) := hp.2.2.1 (fun _ => 1)
  have h5 := hp.2.2.2.1
  have h6 := hp.2.2.2.2
  rw [h2] at h1
  exact Nat.le_trans h1 (Nat.mul_le_mul_left M (by omega))

set_option maxHeartbeats 4000000 in
set_option maxRecDepth 100000 in
/-- below -/
theorem c_X0_below (l : Launch) (E : wE) (A : Nat → Nat) (n sz : Nat) (g : Nat → va_E) (i : Nat) (L : List (Nat × Nat)) (b : Int) (hi : i + 2 < n) (hV : BookV E A g i L) (hb32 : I32 b) : Met l yX0_below wsX0_below ({ frames := 1, cells := 0, slots := 0, locals := 30 } : Room) (va_Pc [.ref (A (i)), .int (iI (b))] (wPre E A n sz g)) (va_Qi (fun r g' => r = iI ((bBelow L b : Nat) : Int) ∧ g' = g) (wAt E A n) (wF A n sz)) 0 0 (wF A n sz) := by
  refine x_met (cc := cX0_below) (maxL := 4) (ret := (some .int)) [.ref (A (i)), .int (iI (b))] (by decide) rfl (Nat.le_of_ble_eq_true rfl) ?_
  intro p e s m below meth c ls X hr hlk hnm hsz hW hl
  have hl : lv_has ls 4 [(0, .ref (A (i))), (1, .int (iI (b)))] := hl
  have lk_0 : ∀ w ∈ wsX00, w ∈ wsX0_below := by decide +kernel
  have lk_1 : Cond.fieldLink RX0 18 (TX0 2).1 (TX0 2).2.1 (TX0 2).2.2.1 ∈ wsX0_below := by decide +kernel
  have lk_2 : Cond.fieldLink RX0 9 (TX0 0).1 (TX0 0).2.1 (TX0 0).2.2.1 ∈ wsX0_below := by decide +kernel
  have lk_3 : Cond.fieldLink RX0 15 (TX0 1).1 (TX0 1).2.1 (TX0 1).2.2.1 ∈ wsX0_below := by decide +kernel
  obtain ⟨bz, wo, we, tot, ⟨h0, hs8, f, h, h1, h2, hf⟩, hp⟩ := hV
  have hsum : sm (fun k => we k * (if ((wo k : Nat) : Int) < b then 1 else 0)) bz = bBelow L b := hp.2.2.1 (fun x => if (x : Int) < b then 1 else 0)
  have hmx : ∀ j, j ≤ bz → sm (fun k => we k * (if ((wo k : Nat) : Int) < b then 1 else 0)) j ≤ 1 * 8000 := bE_le_tot hp (f := fun x => if (x : Int) < b then 1 else 0) (fun k _ => by split <;> omega)
  refine x_iconst X dX0_below_0 ?_
  refine x_seti (((sm (fun k => we k * (if ((wo k : Nat) : Int) < b then 1 else 0)) 0 : Nat) : Int)) rfl ?_
  refine lv_istore_n (lv' := [(2, .int (iI (((sm (fun k => we k * (if ((wo k : Nat) : Int) < b then 1 else 0)) 0 : Nat) : Int)))), (0, .ref (A (i))), (1, .int (iI (b)))]) X.1 X.2.1 dX0_below_1 rfl hl (by decide) rfl (fun ls hl => ?_)
  refine x_iconst X dX0_below_2 ?_
  refine lv_istore_n (lv' := [(3, .int (iI (0))), (2, .int (iI (((sm (fun k => we k * (if ((wo k : Nat) : Int) < b then 1 else 0)) 0 : Nat) : Int)))), (0, .ref (A (i))), (1, .int (iI (b)))]) X.1 X.2.1 dX0_below_3 rfl hl (by decide) rfl (fun ls hl => ?_)
  have loop_4 : ∀ (fuel : Nat) (k : Nat) (gw : Nat → va_E) (H : Heap) (locs : List Loc) (ls : Array Slot), (bz - k) < fuel → (k ≤ bz) → (gw = g) → wH E (wF A n sz) A n s gw H locs → lv_has ls 4 [(0, .ref (A (i))), (1, .int (iI (b))), (2, .int (iI (((sm (fun k => we k * (if ((wo k : Nat) : Int) < b then 1 else 0)) k : Nat) : Int)))), (3, .int (iI ((k : Int))))] → W p l e ({ frames := 1, cells := 0, slots := 0, locals := 30 } : Room) s m [.ref (A (i)), .int (iI (b))].toArray below meth c H locs 0 0 (MQ below (va_Qi (fun r g' => r = iI ((bBelow L b : Nat) : Int) ∧ g' = g) (wAt E A n) (wF A n sz)) [.ref (A (i)), .int (iI (b))].toArray s 0 0 (wF A n sz)) (F0 m 4 ls []) := by
    intro fuel
    induction fuel with
    | zero => intro k gw H locs ls hm; exact absurd hm (Nat.not_lt_zero _)
    | succ fuel ih_4 =>
      intro k gw H locs ls hm hk hgg hW hl
      have h0 : gw i = .inr (0, [.ref (A (i + 1)), .ref (A (i + 2)), .int (iI ((bz : Int))), .int (iI ((tot : Int)))]) := by rw [hgg]; exact h0
      have h1 : gw (i + 1) = aI E 8 f := by rw [hgg]; exact h1
      have h2 : gw (i + 2) = aI E 8 h := by rw [hgg]; exact h2
      have hm8 := hmx k hk
      refine lv_iload_n X.1 X.2.1 dX0_below_4 rfl (lv_at hl 3 rfl) ?_
      refine lv_aload_n X.1 X.2.1 dX0_below_5 rfl (lv_at hl 0 rfl) ?_
      refine x_get (C := RX0) (T := TX0) (N := 4) X hW (by omega) h0 rfl lk_0 2 (by decide) lk_1 rfl dX0_below_6 ?_
      refine x_icmp_ge (tgt := 37) X ⟨by omega, by omega⟩ ⟨by omega, by omega⟩ dX0_below_9 (by decide) (fun b_9 => ?_) (fun b_9 => ?_)
      · refine lv_iload_n X.1 X.2.1 dX0_below_37 rfl (lv_at hl 2 rfl) ?_
        exact x_iret X hr hlk hW (⟨by congr 2; rw [← hsum]; first | exact (by rw [show k = bz from by omega]) | exact (sm_stop hk (fun j h1 h2 => by rw [if_neg (by have := asc_le hp.1 h1 h2; omega), Nat.mul_zero])).symm, hgg⟩) dX0_below_38
      · have hk9 : k < bz := by omega
        have ha := hp.2.1 k hk9
        have hb := we_le hp hk9
        have hc := hf k hk9
        refine lv_aload_n X.1 X.2.1 dX0_below_12 rfl (lv_at hl 0 rfl) ?_
        refine x_get (C := RX0) (T := TX0) (N := 4) X hW (by omega) h0 rfl lk_0 0 (by decide) lk_2 rfl dX0_below_13 ?_
        refine lv_iload_n X.1 X.2.1 dX0_below_16 rfl (lv_at hl 3 rfl) ?_
        refine x_iald X hW (by omega) h1 (v := iI (((wo k : Nat) : Int))) k (by omega) (by omega) (by decide) hc.1 dX0_below_17 ?_
        refine lv_iload_n X.1 X.2.1 dX0_below_18 rfl (lv_at hl 1 rfl) ?_
        refine x_icmp_ge (tgt := 37) X ⟨by omega, by omega⟩ hb32 dX0_below_19 (by decide) (fun b_19 => ?_) (fun b_19 => ?_)
        · refine lv_iload_n X.1 X.2.1 dX0_below_37 rfl (lv_at hl 2 rfl) ?_
          exact x_iret X hr hlk hW (⟨by congr 2; rw [← hsum]; first | exact (by rw [show k = bz from by omega]) | exact (sm_stop hk (fun j h1 h2 => by rw [if_neg (by have := asc_le hp.1 h1 h2; omega), Nat.mul_zero])).symm, hgg⟩) dX0_below_38
        · refine lv_iload_n X.1 X.2.1 dX0_below_22 rfl (lv_at hl 2 rfl) ?_
          refine lv_aload_n X.1 X.2.1 dX0_below_23 rfl (lv_at hl 0 rfl) ?_
          refine x_get (C := RX0) (T := TX0) (N := 4) X hW (by omega) h0 rfl lk_0 1 (by decide) lk_3 rfl dX0_below_24 ?_
          refine lv_iload_n X.1 X.2.1 dX0_below_27 rfl (lv_at hl 3 rfl) ?_
          refine x_iald X hW (by omega) h2 (v := iI (((we k : Nat) : Int))) k (by omega) (by omega) (by decide) hc.2 dX0_below_28 ?_
          refine x_iadd X dX0_below_29 ?_
          refine x_seti (((sm (fun k => we k * (if ((wo k : Nat) : Int) < b then 1 else 0)) (k + 1) : Nat) : Int)) (by show _ = ((sm (fun k => we k * (if ((wo k : Nat) : Int) < b then 1 else 0)) k + we k * (if ((wo k : Nat) : Int) < b then 1 else 0) : Nat) : Int); rw [if_pos (by omega), Nat.mul_one]; omega) ?_
          refine lv_istore_n (lv' := [(2, .int (iI (((sm (fun k => we k * (if ((wo k : Nat) : Int) < b then 1 else 0)) (k + 1) : Nat) : Int)))), (0, .ref (A (i))), (1, .int (iI (b))), (3, .int (iI ((k : Int))))]) X.1 X.2.1 dX0_below_30 rfl hl (by decide) rfl (fun ls hl => ?_)
          refine lv_iinc (v := iI (((k + 1 : Nat) : Int))) (lv' := [(3, .int (iI (((k + 1 : Nat) : Int)))), (2, .int (iI (((sm (fun k => we k * (if ((wo k : Nat) : Int) < b then 1 else 0)) (k + 1) : Nat) : Int)))), (0, .ref (A (i))), (1, .int (iI (b)))]) X.1 X.2.1 dX0_below_31 hl (k := 3) rfl (by rw [show (Int32.ofInt (1)) = iI (1) from rfl, iI_add]; rfl) (by decide) rfl (fun ls hl => ?_)
          refine lv_goto (tgt := 4) X.1 X.2.1 dX0_below_34 (by decide) ?_
          exact ih_4 (k + 1) gw _ _ _ (by omega) (by omega) hgg hW (lv_sub hl [2, 3, 1, 0] rfl)
  exact loop_4 _ 0 g _ _ _ (Nat.lt_succ_self _) (Nat.zero_le _) rfl hW (lv_sub hl [2, 3, 1, 0] rfl)

set_option maxHeartbeats 4000000 in
set_option maxRecDepth 100000 in
/-- gathered -/
theorem c_X0_gathered (l : Launch) (E : wE) (A : Nat → Nat) (n sz : Nat) (g : Nat → va_E) (i : Nat) (L : List (Nat × Nat)) (b : Int) (hi : i + 2 < n) (hV : BookV E A g i L) (hb32 : I32 b) : Met l yX0_gathered wsX0_gathered ({ frames := 1, cells := 0, slots := 0, locals := 30 } : Room) (va_Pc [.ref (A (i)), .int (iI (b))] (wPre E A n sz g)) (va_Qi (fun r g' => r = iI ((bGath L b : Nat) : Int) ∧ g' = g) (wAt E A n) (wF A n sz)) 0 0 (wF A n sz) := by
  refine x_met (cc := cX0_gathered) (maxL := 4) (ret := (some .int)) [.ref (A (i)), .int (iI (b))] (by decide) rfl (Nat.le_of_ble_eq_true rfl) ?_
  intro p e s m below meth c ls X hr hlk hnm hsz hW hl
  have hl : lv_has ls 4 [(0, .ref (A (i))), (1, .int (iI (b)))] := hl
  have lk_0 : ∀ w ∈ wsX00, w ∈ wsX0_gathered := by decide +kernel
  have lk_1 : Cond.fieldLink RX0 18 (TX0 2).1 (TX0 2).2.1 (TX0 2).2.2.1 ∈ wsX0_gathered := by decide +kernel
  have lk_2 : Cond.fieldLink RX0 9 (TX0 0).1 (TX0 0).2.1 (TX0 0).2.2.1 ∈ wsX0_gathered := by decide +kernel
  have lk_3 : Cond.fieldLink RX0 15 (TX0 1).1 (TX0 1).2.1 (TX0 1).2.2.1 ∈ wsX0_gathered := by decide +kernel
  obtain ⟨bz, wo, we, tot, ⟨h0, hs8, f, h, h1, h2, hf⟩, hp⟩ := hV
  have hsum : sm (fun k => we k * (if b ≤ ((wo k : Nat) : Int) then wo k else 0)) bz = bGath L b := hp.2.2.1 (fun x => if b ≤ (x : Int) then x else 0)
  have hmx : ∀ j, j ≤ bz → sm (fun k => we k * (if b ≤ ((wo k : Nat) : Int) then wo k else 0)) j ≤ 1000 * 8000 := bE_le_tot hp (f := fun x => if b ≤ (x : Int) then x else 0) (fun k hk => by have := (hp.2.1 k hk).2; split <;> omega)
  have hms := hmx bz (Nat.le_refl _)
  refine x_iconst X dX0_gathered_0 ?_
  refine x_seti (((sm (fun k => we k * (if b ≤ ((wo k : Nat) : Int) then wo k else 0)) bz - sm (fun k => we k * (if b ≤ ((wo k : Nat) : Int) then wo k else 0)) bz : Nat) : Int)) (by rw [Nat.sub_self]; rfl) ?_
  refine lv_istore_n (lv' := [(2, .int (iI (((sm (fun k => we k * (if b ≤ ((wo k : Nat) : Int) then wo k else 0)) bz - sm (fun k => we k * (if b ≤ ((wo k : Nat) : Int) then wo k else 0)) bz : Nat) : Int)))), (0, .ref (A (i))), (1, .int (iI (b)))]) X.1 X.2.1 dX0_gathered_1 rfl hl (by decide) rfl (fun ls hl => ?_)
  refine lv_aload_n X.1 X.2.1 dX0_gathered_2 rfl (lv_at hl 1 rfl) ?_
  refine x_get (C := RX0) (T := TX0) (N := 4) X hW (by omega) h0 rfl lk_0 2 (by decide) lk_1 rfl dX0_gathered_3 ?_
  refine x_iconst X dX0_gathered_6 ?_
  refine x_isub X dX0_gathered_7 ?_
  refine lv_istore_n (lv' := [(3, .int (iI (((bz : Int)) - 1))), (2, .int (iI (((sm (fun k => we k * (if b ≤ ((wo k : Nat) : Int) then wo k else 0)) bz - sm (fun k => we k * (if b ≤ ((wo k : Nat) : Int) then wo k else 0)) bz : Nat) : Int)))), (0, .ref (A (i))), (1, .int (iI (b)))]) X.1 X.2.1 dX0_gathered_8 rfl hl (by decide) rfl (fun ls hl => ?_)
  have loop_9 : ∀ (fuel : Nat) (k : Nat) (gw : Nat → va_E) (H : Heap) (locs : List Loc) (ls : Array Slot), (k) < fuel → (k ≤ bz) → (gw = g) → wH E (wF A n sz) A n s gw H locs → lv_has ls 4 [(0, .ref (A (i))), (1, .int (iI (b))), (2, .int (iI (((sm (fun k => we k * (if b ≤ ((wo k : Nat) : Int) then wo k else 0)) bz - sm (fun k => we k * (if b ≤ ((wo k : Nat) : Int) then wo k else 0)) k : Nat) : Int)))), (3, .int (iI ((k : Int) - 1)))] → W p l e ({ frames := 1, cells := 0, slots := 0, locals := 30 } : Room) s m [.ref (A (i)), .int (iI (b))].toArray below meth c H locs 0 0 (MQ below (va_Qi (fun r g' => r = iI ((bGath L b : Nat) : Int) ∧ g' = g) (wAt E A n) (wF A n sz)) [.ref (A (i)), .int (iI (b))].toArray s 0 0 (wF A n sz)) (F0 m 9 ls []) := by
    intro fuel
    induction fuel with
    | zero => intro k gw H locs ls hm; exact absurd hm (Nat.not_lt_zero _)
    | succ fuel ih_9 =>
      intro k gw H locs ls hm hk hgg hW hl
      have h0 : gw i = .inr (0, [.ref (A (i + 1)), .ref (A (i + 2)), .int (iI ((bz : Int))), .int (iI ((tot : Int)))]) := by rw [hgg]; exact h0
      have h1 : gw (i + 1) = aI E 8 f := by rw [hgg]; exact h1
      have h2 : gw (i + 2) = aI E 8 h := by rw [hgg]; exact h2
      have hm9 := sm_mono (fun k => we k * (if b ≤ ((wo k : Nat) : Int) then wo k else 0)) hk
      refine lv_iload_n X.1 X.2.1 dX0_gathered_9 rfl (lv_at hl 3 rfl) ?_
      refine x_if_lt (tgt := 45) X ⟨by omega, by omega⟩ dX0_gathered_10 (by decide) (fun b_10 => ?_) (fun b_10 => ?_)
      · refine lv_iload_n X.1 X.2.1 dX0_gathered_45 rfl (lv_at hl 2 rfl) ?_
        exact x_iret X hr hlk hW (⟨by congr 2; rw [← hsum]; first | (rw [show k = 0 from by omega]; exact Nat.sub_zero _) | (rw [show sm (fun k => we k * (if b ≤ ((wo k : Nat) : Int) then wo k else 0)) k = 0 from sm_zero k (fun j hj => by rw [if_neg (by have := asc_le hp.1 (show j ≤ t by omega) hk9; omega), Nat.mul_zero])]; exact Nat.sub_zero _), hgg⟩) dX0_gathered_46
      · obtain ⟨t, ht⟩ : ∃ t, k = t + 1 := ⟨k - 1, by omega⟩
        have hk9 : t < bz := by omega
        have ha := hp.2.1 t hk9
        have hb := we_le hp hk9
        have hc := hf t hk9
        have hsp : sm (fun k => we k * (if b ≤ ((wo k : Nat) : Int) then wo k else 0)) k = sm (fun k => we k * (if b ≤ ((wo k : Nat) : Int) then wo k else 0)) t + we t * (if b ≤ ((wo t : Nat) : Int) then wo t else 0) := by rw [ht]; rfl
        have hpr : wo t * we t ≤ 1000 * 8000 := Nat.mul_le_mul ha.2 hb
        have hpc : ((wo t : Nat) : Int) * ((we t : Nat) : Int) = ((wo t * we t : Nat) : Int) := (Int.natCast_mul _ _).symm
        refine lv_aload_n X.1 X.2.1 dX0_gathered_13 rfl (lv_at hl 0 rfl) ?_
        refine x_get (C := RX0) (T := TX0) (N := 4) X hW (by omega) h0 rfl lk_0 0 (by decide) lk_2 rfl dX0_gathered_14 ?_
        refine lv_iload_n X.1 X.2.1 dX0_gathered_17 rfl (lv_at hl 3 rfl) ?_
        refine x_iald X hW (by omega) h1 (v := iI (((wo t : Nat) : Int))) t (by omega) (by omega) (by decide) hc.1 dX0_gathered_18 ?_
        refine lv_iload_n X.1 X.2.1 dX0_gathered_19 rfl (lv_at hl 1 rfl) ?_
        refine x_icmp_lt (tgt := 45) X ⟨by omega, by omega⟩ hb32 dX0_gathered_20 (by decide) (fun b_20 => ?_) (fun b_20 => ?_)
        · refine lv_iload_n X.1 X.2.1 dX0_gathered_45 rfl (lv_at hl 2 rfl) ?_
          exact x_iret X hr hlk hW (⟨by congr 2; rw [← hsum]; first | (rw [show k = 0 from by omega]; exact Nat.sub_zero _) | (rw [show sm (fun k => we k * (if b ≤ ((wo k : Nat) : Int) then wo k else 0)) k = 0 from sm_zero k (fun j hj => by rw [if_neg (by have := asc_le hp.1 (show j ≤ t by omega) hk9; omega), Nat.mul_zero])]; exact Nat.sub_zero _), hgg⟩) dX0_gathered_46
        · refine lv_iload_n X.1 X.2.1 dX0_gathered_23 rfl (lv_at hl 2 rfl) ?_
          refine lv_aload_n X.1 X.2.1 dX0_gathered_24 rfl (lv_at hl 0 rfl) ?_
          refine x_get (C := RX0) (T := TX0) (N := 4) X hW (by omega) h0 rfl lk_0 0 (by decide) lk_2 rfl dX0_gathered_25 ?_
          refine lv_iload_n X.1 X.2.1 dX0_gathered_28 rfl (lv_at hl 3 rfl) ?_
          refine x_iald X hW (by omega) h1 (v := iI (((wo t : Nat) : Int))) t (by omega) (by omega) (by decide) hc.1 dX0_gathered_29 ?_
          refine lv_aload_n X.1 X.2.1 dX0_gathered_30 rfl (lv_at hl 0 rfl) ?_
          refine x_get (C := RX0) (T := TX0) (N := 4) X hW (by omega) h0 rfl lk_0 1 (by decide) lk_3 rfl dX0_gathered_31 ?_
          refine lv_iload_n X.1 X.2.1 dX0_gathered_34 rfl (lv_at hl 3 rfl) ?_
          refine x_iald X hW (by omega) h2 (v := iI (((we t : Nat) : Int))) t (by omega) (by omega) (by decide) hc.2 dX0_gathered_35 ?_
          refine x_imul X dX0_gathered_36 ?_
          refine x_seti (((wo t * we t : Nat) : Int)) hpc ?_
          refine x_iadd X dX0_gathered_37 ?_
          refine x_seti (((sm (fun k => we k * (if b ≤ ((wo k : Nat) : Int) then wo k else 0)) bz - sm (fun k => we k * (if b ≤ ((wo k : Nat) : Int) then wo k else 0)) t : Nat) : Int)) (by rw [if_pos (by omega), Nat.mul_comm] at hsp; omega) ?_
          refine lv_istore_n (lv' := [(2, .int (iI (((sm (fun k => we k * (if b ≤ ((wo k : Nat) : Int) then wo k else 0)) bz - sm (fun k => we k * (if b ≤ ((wo k : Nat) : Int) then wo k else 0)) t : Nat) : Int)))), (0, .ref (A (i))), (1, .int (iI (b))), (3, .int (iI ((k : Int) - 1)))]) X.1 X.2.1 dX0_gathered_38 rfl hl (by decide) rfl (fun ls hl => ?_)
          refine lv_iinc (v := iI ((t : Int) - 1)) (lv' := [(3, .int (iI ((t : Int) - 1))), (2, .int (iI (((sm (fun k => we k * (if b ≤ ((wo k : Nat) : Int) then wo k else 0)) bz - sm (fun k => we k * (if b ≤ ((wo k : Nat) : Int) then wo k else 0)) t : Nat) : Int)))), (0, .ref (A (i))), (1, .int (iI (b)))]) X.1 X.2.1 dX0_gathered_39 hl (k := 3) rfl (by rw [show (Int32.ofInt (-1)) = iI (-1) from rfl, iI_add]; congr 1; omega) (by decide) rfl (fun ls hl => ?_)
          refine lv_goto (tgt := 9) X.1 X.2.1 dX0_gathered_42 (by decide) ?_
          exact ih_9 t gw _ _ _ (by omega) (by omega) hgg hW (lv_sub hl [2, 3, 1, 0] rfl)
  exact loop_9 _ bz g _ _ _ (Nat.lt_succ_self _) (Nat.le_refl _) rfl hW (lv_sub hl [2, 3, 1, 0] rfl)

/-- the least worth from 'low' on that has a weight, or -1 -/
def bMass (L : List (Nat × Nat)) (x : Nat) : Nat := bE L (fun y => if y = x then 1 else 0)
def LF (L : List (Nat × Nat)) (low z : Int) : Prop := (z = -1 ∧ ∀ x : Nat, low ≤ (x : Int) → bMass L x = 0) ∨ ∃ x : Nat, z = (x : Int) ∧ x ≤ 1000 ∧ low ≤ (x : Int) ∧ 0 < bMass L x ∧ ∀ y : Nat, y < x → low ≤ (y : Int) → bMass L y = 0
theorem mass_at {bz : Nat} {wo we : Nat → Nat} {tot : Nat} {L : List (Nat × Nat)} (hp : BookP bz wo we tot L) {k : Nat} (hk : k < bz) : 0 < bMass L (wo k) := by
  have h1 : sm (fun j => we j * (if wo j = wo k then 1 else 0)) bz = bMass L (wo k) := hp.2.2.1 (fun y => if y = wo k then 1 else 0)
  have h2 := sm_part (fun j => we j * (if wo j = wo k then 1 else 0)) hk
  have h3 := (hp.2.1 k hk).1
  have h4 : we k * (if wo k = wo k then 1 else 0) = we k := by rw [if_pos rfl, Nat.mul_one]
  have h5 : (fun j => we j * (if wo j = wo k then 1 else 0)) k = we k := h4
  omega
theorem mass_no {bz : Nat} {wo we : Nat → Nat} {tot : Nat} {L : List (Nat × Nat)} (hp : BookP bz wo we tot L) {x : Nat} (h : ∀ k, k < bz → wo k ≠ x) : bMass L x = 0 := by
  have h1 : sm (fun j => we j * (if wo j = x then 1 else 0)) bz = bMass L x := hp.2.2.1 (fun y => if y = x then 1 else 0)
  rw [← h1]
  exact sm_zero bz (fun j hj => by rw [if_neg (h j hj), Nat.mul_zero])

set_option maxHeartbeats 4000000 in
set_option maxRecDepth 100000 in
/-- leastFrom -/
theorem c_X0_leastFrom (l : Launch) (E : wE) (A : Nat → Nat) (n sz : Nat) (g : Nat → va_E) (i : Nat) (L : List (Nat × Nat)) (b : Int) (hi : i + 2 < n) (hV : BookV E A g i L) (hb32 : I32 b) : Met l yX0_leastFrom wsX0_leastFrom ({ frames := 1, cells := 0, slots := 0, locals := 30 } : Room) (va_Pc [.ref (A (i)), .int (iI (b))] (wPre E A n sz g)) (va_Qi (fun r g' => (∃ z : Int, r = iI z ∧ LF L b z) ∧ g' = g) (wAt E A n) (wF A n sz)) 0 0 (wF A n sz) := by
  refine x_met (cc := cX0_leastFrom) (maxL := 3) (ret := (some .int)) [.ref (A (i)), .int (iI (b))] (by decide) rfl (Nat.le_of_ble_eq_true rfl) ?_
  intro p e s m below meth c ls X hr hlk hnm hsz hW hl
  have hl : lv_has ls 3 [(0, .ref (A (i))), (1, .int (iI (b)))] := hl
  have lk_0 : ∀ w ∈ wsX00, w ∈ wsX0_leastFrom := by decide +kernel
  have lk_1 : Cond.fieldLink RX0 18 (TX0 2).1 (TX0 2).2.1 (TX0 2).2.2.1 ∈ wsX0_leastFrom := by decide +kernel
  have lk_2 : Cond.fieldLink RX0 9 (TX0 0).1 (TX0 0).2.1 (TX0 0).2.2.1 ∈ wsX0_leastFrom := by decide +kernel
  obtain ⟨bz, wo, we, tot, ⟨h0, hs8, f, h, h1, h2, hf⟩, hp⟩ := hV
  refine x_iconst X dX0_leastFrom_0 ?_
  refine lv_istore_n (lv' := [(2, .int (iI (0))), (0, .ref (A (i))), (1, .int (iI (b)))]) X.1 X.2.1 dX0_leastFrom_1 rfl hl (by decide) rfl (fun ls hl => ?_)
  have loop_2 : ∀ (fuel : Nat) (k : Nat) (gw : Nat → va_E) (H : Heap) (locs : List Loc) (ls : Array Slot), (bz - k) < fuel → (k ≤ bz) → (∀ j, j < k → ((wo j : Nat) : Int) < b) → (gw = g) → wH E (wF A n sz) A n s gw H locs → lv_has ls 3 [(0, .ref (A (i))), (1, .int (iI (b))), (2, .int (iI ((k : Int))))] → W p l e ({ frames := 1, cells := 0, slots := 0, locals := 30 } : Room) s m [.ref (A (i)), .int (iI (b))].toArray below meth c H locs 0 0 (MQ below (va_Qi (fun r g' => (∃ z : Int, r = iI z ∧ LF L b z) ∧ g' = g) (wAt E A n) (wF A n sz)) [.ref (A (i)), .int (iI (b))].toArray s 0 0 (wF A n sz)) (F0 m 2 ls []) := by
    intro fuel
    induction fuel with
    | zero => intro k gw H locs ls hm; exact absurd hm (Nat.not_lt_zero _)
    | succ fuel ih_2 =>
      intro k gw H locs ls hm hk hs hgg hW hl
      have h0 : gw i = .inr (0, [.ref (A (i + 1)), .ref (A (i + 2)), .int (iI ((bz : Int))), .int (iI ((tot : Int)))]) := by rw [hgg]; exact h0
      have h1 : gw (i + 1) = aI E 8 f := by rw [hgg]; exact h1
      have h2 : gw (i + 2) = aI E 8 h := by rw [hgg]; exact h2
      refine lv_iload_n X.1 X.2.1 dX0_leastFrom_2 rfl (lv_at hl 2 rfl) ?_
      refine lv_aload_n X.1 X.2.1 dX0_leastFrom_3 rfl (lv_at hl 0 rfl) ?_
      refine x_get (C := RX0) (T := TX0) (N := 4) X hW (by omega) h0 rfl lk_0 2 (by decide) lk_1 rfl dX0_leastFrom_4 ?_
      refine x_icmp_ge (tgt := 33) X ⟨by omega, by omega⟩ ⟨by omega, by omega⟩ dX0_leastFrom_7 (by decide) (fun b_7 => ?_) (fun b_7 => ?_)
      · refine x_iconst X dX0_leastFrom_33 ?_
        exact x_iret X hr hlk hW (⟨⟨-1, rfl, Or.inl ⟨rfl, fun x hx => mass_no hp (fun j hj e => by have := hs j (by omega); omega)⟩⟩, hgg⟩) dX0_leastFrom_34
      · have hk9 : k < bz := by omega
        have ha := hp.2.1 k hk9
        have hb := we_le hp hk9
        have hc := hf k hk9
        refine lv_aload_n X.1 X.2.1 dX0_leastFrom_10 rfl (lv_at hl 0 rfl) ?_
        refine x_get (C := RX0) (T := TX0) (N := 4) X hW (by omega) h0 rfl lk_0 0 (by decide) lk_2 rfl dX0_leastFrom_11 ?_
        refine lv_iload_n X.1 X.2.1 dX0_leastFrom_14 rfl (lv_at hl 2 rfl) ?_
        refine x_iald X hW (by omega) h1 (v := iI (((wo k : Nat) : Int))) k (by omega) (by omega) (by decide) hc.1 dX0_leastFrom_15 ?_
        refine lv_iload_n X.1 X.2.1 dX0_leastFrom_16 rfl (lv_at hl 1 rfl) ?_
        refine x_icmp_lt (tgt := 27) X ⟨by omega, by omega⟩ hb32 dX0_leastFrom_17 (by decide) (fun b_17 => ?_) (fun b_17 => ?_)
        · refine lv_iinc (v := iI (((k + 1 : Nat) : Int))) (lv' := [(2, .int (iI (((k + 1 : Nat) : Int)))), (0, .ref (A (i))), (1, .int (iI (b)))]) X.1 X.2.1 dX0_leastFrom_27 hl (k := 2) rfl (by rw [show (Int32.ofInt (1)) = iI (1) from rfl, iI_add]; rfl) (by decide) rfl (fun ls hl => ?_)
          refine lv_goto (tgt := 2) X.1 X.2.1 dX0_leastFrom_30 (by decide) ?_
          exact ih_2 (k + 1) gw _ _ _ (by omega) (by omega) (fun j hj => if e : j = k then (by rw [e]; exact b_17) else hs j (by omega)) hgg hW (lv_sub hl [1, 2, 0] rfl)
        · refine lv_aload_n X.1 X.2.1 dX0_leastFrom_20 rfl (lv_at hl 0 rfl) ?_
          refine x_get (C := RX0) (T := TX0) (N := 4) X hW (by omega) h0 rfl lk_0 0 (by decide) lk_2 rfl dX0_leastFrom_21 ?_
          refine lv_iload_n X.1 X.2.1 dX0_leastFrom_24 rfl (lv_at hl 2 rfl) ?_
          refine x_iald X hW (by omega) h1 (v := iI (((wo k : Nat) : Int))) k (by omega) (by omega) (by decide) hc.1 dX0_leastFrom_25 ?_
          exact x_iret X hr hlk hW (⟨⟨_, rfl, Or.inr ⟨wo k, rfl, ha.2, by omega, mass_at hp hk9, fun y hy hb9 => mass_no hp (fun j hj e => by
          rcases Nat.lt_or_ge j k with q | q
          · have := hs j q; omega
          · have := asc_le hp.1 q hj; omega)⟩⟩, hgg⟩) dX0_leastFrom_26
  exact loop_2 _ 0 g _ _ _ (Nat.lt_succ_self _) (Nat.zero_le _) (fun j hj => absurd hj (Nat.not_lt_zero _)) rfl hW (lv_sub hl [1, 2, 0] rfl)
