/-! ===== the reference: search ===== -/
def bBit (st i : Nat) : Nat := st / 2 ^ i % 2
theorem sl_bit : ∀ i, i < 7 → (iI 1) <<< ((iI ((i : Nat) : Int)) &&& 31) = iI ((2 ^ i : Nat) : Int) := by decide +kernel
theorem sr_bit : ∀ i, i < 6 → ∀ st, st < 64 → ((iI ((st : Nat) : Int)) >>> ((iI ((i : Nat) : Int)) &&& 31)) &&& (iI 1) = iI ((bBit st i : Nat) : Int) := by decide +kernel
theorem or_bit : ∀ i, i < 6 → ∀ st, st < 64 → bBit st i = 0 → (iI ((st : Nat) : Int)) ||| (iI ((2 ^ i : Nat) : Int)) = iI ((st + 2 ^ i : Nat) : Int) := by decide +kernel
theorem up_bit : ∀ xz, xz < 7 → ∀ i, i < xz → ∀ st, st < 2 ^ xz → bBit st i = 0 → st + 2 ^ i < 2 ^ xz := by decide +kernel
theorem p64 : ∀ xz, xz < 7 → 2 ^ xz ≤ 64 := by decide +kernel
theorem bBit_01 (st i : Nat) : bBit st i = 0 ∨ bBit st i = 1 := by unfold bBit; omega
def smZ (f : Nat → Int) : Nat → Int
  | 0 => 0
  | k + 1 => smZ f k + f k
def prS (Lx : Nat → List (Nat × Nat)) (st : Nat) : Nat → Nat
  | 0 => 1
  | i + 1 => if bBit st i = 0 then prS Lx st i * bE (Lx i) (fun _ => 1) else prS Lx st i
/-- what opening box i brings, the pairs up to u counted -/
def cdT (Lx : Nat → List (Nat × Nat)) (px : Nat → Nat) (xz : Nat) (V : Nat → Nat → Int) (st x i u : Nat) : Int := 0 + ((prS Lx st xz : Nat) : Int) * (-((px i : Nat) : Int)) + smZ (fun k => V (st + 2 ^ i) (if x < ((Lx i).getD k (0, 0)).1 then ((Lx i).getD k (0, 0)).1 else x) * ((((Lx i).getD k (0, 0)).2 : Nat) : Int)) u
/-- the best of stopping and of opening one of the first boxes -/
def blM (Lx : Nat → List (Nat × Nat)) (px : Nat → Nat) (xz : Nat) (V : Nat → Nat → Int) (st x : Nat) : Nat → Int
  | 0 => 0 + ((prS Lx st xz : Nat) : Int) * ((x : Nat) : Int)
  | i + 1 => if bBit st i = 0 then (if blM Lx px xz V st x i < cdT Lx px xz V st x i (Lx i).length then cdT Lx px xz V st x i (Lx i).length else blM Lx px xz V st x i) else blM Lx px xz V st x i
theorem prS_le {Lx : Nat → List (Nat × Nat)} {xz : Nat} (h : ∀ k, k < xz → bE (Lx k) (fun _ => 1) ≤ 8000) (st : Nat) : ∀ i, i ≤ xz → prS Lx st i ≤ 8000 ^ i := by
  intro i
  induction i with
  | zero => intro _; exact Nat.le_refl _
  | succ i ih =>
    intro hi
    show (if bBit st i = 0 then prS Lx st i * bE (Lx i) (fun _ => 1) else prS Lx st i) ≤ _
    rw [Nat.pow_succ]
    split
    · exact Nat.mul_le_mul (ih (by omega)) (h i (by omega))
    · exact Nat.le_trans (ih (by omega)) (Nat.le_mul_of_pos_right _ (by decide))
theorem smZ_rng {f : Nat → Int} {M : Int} (hM : 0 ≤ M) : ∀ k, (∀ j, j < k → 0 ≤ f j ∧ f j ≤ M) → 0 ≤ smZ f k ∧ smZ f k ≤ (k : Int) * M := by
  intro k
  induction k with
  | zero => intro _; exact ⟨Int.le_refl _, by rw [show (((0 : Nat) : Int)) = 0 from rfl, Int.zero_mul]; exact Int.le_refl _⟩
  | succ k ih =>
    intro h
    have h1 := ih (fun j hj => h j (by omega))
    have h2 := h k (by omega)
    show 0 ≤ smZ f k + f k ∧ smZ f k + f k ≤ _
    rw [show (((k + 1 : Nat) : Int)) = (k : Int) + 1 from by omega, Int.add_mul, Int.one_mul]
    omega
theorem w_rng {V : Nat → Nat → Int} (hV : ∀ st x, 0 ≤ V st x ∧ V st x ≤ 10 ^ 30) (st x : Nat) {w : Nat} (hw : w ≤ 1000) : 0 ≤ V st x * ((w : Nat) : Int) ∧ V st x * ((w : Nat) : Int) ≤ 10 ^ 33 := by
  have h := hV st x
  refine ⟨Int.mul_nonneg h.1 (Int.natCast_nonneg _), ?_⟩
  refine Int.le_trans (Int.mul_le_mul h.2 (show ((w : Nat) : Int) ≤ 1000 by omega) (Int.natCast_nonneg _) (by decide)) (by decide)
/-- how often a worth stands in a book, and in the books of the first boxes -/
def c1W (L : List (Nat × Nat)) (w u : Nat) : Nat := sm (fun k => if (L.getD k (0, 0)).1 = w then 1 else 0) u
def cBW (Lx : Nat → List (Nat × Nat)) (w ii : Nat) : Nat := sm (fun t => c1W (Lx t) w (Lx t).length) ii
def prN (Lx : Nat → List (Nat × Nat)) (xz w : Nat) : Nat := sm (fun y => if y = 0 ∨ 0 < cBW Lx y xz then 1 else 0) w
theorem prN_le {Lx : Nat → List (Nat × Nat)} {xz : Nat} (h8 : ∀ k, k < xz → (Lx k).length ≤ 8) (w : Nat) : prN Lx xz w ≤ 1 + xz * 8 := by
  have h1 : prN Lx xz w ≤ sm (fun y => (if 0 = y then 1 else 0) + cBW Lx y xz) w := by
    apply sm_le
    intro y _
    split
    · rename_i h
      rcases h with h | h
      · rw [if_pos h.symm]; omega
      · omega
    · exact Nat.zero_le _
  rw [sm_add] at h1
  have h2 := sm_hit 0 w
  have h3 : sm (fun y => cBW Lx y xz) w ≤ xz * 8 := by
    unfold cBW
    rw [sm_swap (fun y t => c1W (Lx t) y (Lx t).length), ← sm_const]
    apply sm_le
    intro t ht
    unfold c1W
    rw [sm_swap (fun y k => if ((Lx t).getD k (0, 0)).1 = y then 1 else 0)]
    refine Nat.le_trans (sm_le (h := fun _ => 1) _ (fun k _ => sm_hit _ _)) ?_
    rw [sm_const]
    have := h8 t ht
    omega
  omega
theorem c1W_pos {L : List (Nat × Nat)} {k : Nat} (h : k < L.length) : 0 < c1W L (L.getD k (0, 0)).1 L.length := by
  have := sm_part (fun j => if (L.getD j (0, 0)).1 = (L.getD k (0, 0)).1 then 1 else 0) h
  rw [if_pos rfl] at this
  unfold c1W
  omega
theorem cBW_pos {Lx : Nat → List (Nat × Nat)} {xz i k : Nat} (hi : i < xz) (h : k < (Lx i).length) : 0 < cBW Lx ((Lx i).getD k (0, 0)).1 xz := by
  have := sm_part (fun t => c1W (Lx t) ((Lx i).getD k (0, 0)).1 (Lx t).length) hi
  have := c1W_pos h
  unfold cBW
  omega
/-- the row of worths: ascending, and all that are there -/
def HadV (Lx : Nat → List (Nat × Nat)) (xz w hc : Nat) (fh : Nat → Int32) (hd : Nat → Nat) : Prop := (∀ h, h < hc → fh h = iI ((hd h : Nat) : Int) ∧ hd h < w) ∧ (∀ a b, a < b → b < hc → hd a < hd b) ∧ (∀ y, y < w → (y = 0 ∨ 0 < cBW Lx y xz) → ∃ h, h < hc ∧ hd h = y) ∧ hc ≤ prN Lx xz w ∧ (0 < w → 0 < hc ∧ hd 0 = 0)
theorem HadV.skip {Lx : Nat → List (Nat × Nat)} {xz w hc : Nat} {fh : Nat → Int32} {hd : Nat → Nat} (h : HadV Lx xz w hc fh hd) (hn : ¬ (w = 0 ∨ 0 < cBW Lx w xz)) : HadV Lx xz (w + 1) hc fh hd := by
  refine ⟨fun t ht => ⟨(h.1 t ht).1, by have := (h.1 t ht).2; omega⟩, h.2.1, fun y hy hp => ?_, ?_, fun _ => h.2.2.2.2 (by omega)⟩
  · by_cases e : y = w
    · rw [e] at hp; exact absurd hp hn
    · exact h.2.2.1 y (by omega) hp
  · show hc ≤ prN Lx xz w + (if w = 0 ∨ 0 < cBW Lx w xz then 1 else 0)
    have := h.2.2.2.1
    omega
theorem HadV.add {Lx : Nat → List (Nat × Nat)} {xz w hc : Nat} {fh : Nat → Int32} {hd : Nat → Nat} (h : HadV Lx xz w hc fh hd) (hp : w = 0 ∨ 0 < cBW Lx w xz) : HadV Lx xz (w + 1) (hc + 1) (upd fh hc (iI ((w : Nat) : Int))) (va_up hd hc w) := by
  refine ⟨fun t ht => ?_, fun a b hab hb => ?_, fun y hy hq => ?_, ?_, fun _ => ?_⟩
  · by_cases e : t = hc
    · rw [e, upd_s, va_up_self]; exact ⟨rfl, by omega⟩
    · rw [upd_n e, va_up_ne _ _ e]; have := h.1 t (by omega); exact ⟨this.1, by omega⟩
  · by_cases e : b = hc
    · rw [e, va_up_self, va_up_ne _ _ (show a ≠ hc by omega)]; exact (h.1 a (by omega)).2
    · rw [va_up_ne _ _ e, va_up_ne _ _ (show a ≠ hc by omega)]; exact h.2.1 a b hab (by omega)
  · by_cases e : y = w
    · exact ⟨hc, by omega, by rw [va_up_self, e]⟩
    · obtain ⟨t, ht, e2⟩ := h.2.2.1 y (by omega) hq
      exact ⟨t, by omega, by rw [va_up_ne _ _ (show t ≠ hc by omega)]; exact e2⟩
  · show hc + 1 ≤ prN Lx xz w + (if w = 0 ∨ 0 < cBW Lx w xz then 1 else 0)
    rw [if_pos hp]
    have := h.2.2.2.1
    omega
  · refine ⟨by omega, ?_⟩
    by_cases e : w = 0
    · have h0 : hc = 0 := by have := h.2.2.2.1; rw [e] at this; exact Nat.le_zero.mp this
      rw [h0, va_up_self, e]
    · have := h.2.2.2.2 (by omega)
      rw [va_up_ne _ _ (show (0 : Nat) ≠ hc by omega)]; exact this.2

set_option maxHeartbeats 4000000 in
set_option maxRecDepth 100000 in
/-- placeOf -/
theorem c_X11_placeOf (l : Launch) (E : wE) (A : Nat → Nat) (n sz : Nat) (g : Nat → va_E) (i : Nat) (q : Nat → Int) (hc h0 : Nat) (hd : Nat → Nat) (fh : Nat → Int32) (hi : i + 16 < n) (hO : g i = mO A i q) (h16 : g (i + 16) = aI E 50 fh) (hc5 : hc ≤ 50) (hh0 : h0 < hc) (hfh : ∀ t, t < hc → fh t = iI ((hd t : Nat) : Int) ∧ hd t ≤ 1000) (hasc : ∀ a b, a < b → b < hc → hd a < hd b) : Met l yX11_placeOf wsX11_placeOf ({ frames := 1, cells := 0, slots := 0, locals := 60 } : Room) (va_Pc [.ref (A (i)), .int (iI (((hd h0 : Nat) : Int)))] (wPre E A n sz g)) (va_Qi (fun r g' => r = iI ((h0 : Nat) : Int) ∧ g' = g) (wAt E A n) (wF A n sz)) 0 0 (wF A n sz) := by
  refine x_met (cc := cX11_placeOf) (maxL := 3) (ret := (some .int)) [.ref (A (i)), .int (iI (((hd h0 : Nat) : Int)))] (by decide) rfl (Nat.le_of_ble_eq_true rfl) ?_
  intro p_ e_ s_ m_ below meth c_ ls X hr hlk hnm hsz hW hl
  have hl : lv_has ls 3 [(0, .ref (A (i))), (1, .int (iI (((hd h0 : Nat) : Int))))] := hl
  have lk_0 : ∀ w ∈ wsX110, w ∈ wsX11_placeOf := by decide +kernel
  have lk_1 : Cond.fieldLink RX11 57 (TX11 19).1 (TX11 19).2.1 (TX11 19).2.2.1 ∈ wsX11_placeOf := by decide +kernel
  have hO : g i = .inr (11, [.ref (A (i + 1)), .ref (A (i + 2)), .ref (A (i + 3)), .ref (A (i + 4)), .int (iI (q 0)), .ref (A (i + 5)), .ref (A (i + 6)), .ref (A (i + 7)), .ref (A (i + 8)), .int (iI (q 1)), .ref (A (i + 9)), .ref (A (i + 10)), .ref (A (i + 11)), .int (iI (q 2)), .ref (A (i + 12)), .ref (A (i + 13)), .int (iI (q 3)), .ref (A (i + 14)), .ref (A (i + 15)), .ref (A (i + 16)), .int (iI (q 4))]) := hO
  have hw0 := (hfh h0 hh0).2
  refine x_iconst X dX11_placeOf_0 ?_
  refine x_seti (((0 : Nat) : Int)) rfl ?_
  refine lv_istore_n (lv' := [(2, .int (iI (((0 : Nat) : Int)))), (0, .ref (A (i))), (1, .int (iI (((hd h0 : Nat) : Int))))]) X.1 X.2.1 dX11_placeOf_1 rfl hl (by decide) rfl (fun ls hl => ?_)
  have loop_2 : ∀ (fuel : Nat) (t : Nat) (gw : Nat → va_E) (H : Heap) (locs : List Loc) (ls : Array Slot), (h0 - t) < fuel → (t ≤ h0) → (gw = g) → wH E (wF A n sz) A n s_ gw H locs → lv_has ls 3 [(0, .ref (A (i))), (1, .int (iI (((hd h0 : Nat) : Int)))), (2, .int (iI (((t : Nat) : Int))))] → W p_ l e_ ({ frames := 1, cells := 0, slots := 0, locals := 60 } : Room) s_ m_ [.ref (A (i)), .int (iI (((hd h0 : Nat) : Int)))].toArray below meth c_ H locs 0 0 (MQ below (va_Qi (fun r g' => r = iI ((h0 : Nat) : Int) ∧ g' = g) (wAt E A n) (wF A n sz)) [.ref (A (i)), .int (iI (((hd h0 : Nat) : Int)))].toArray s_ 0 0 (wF A n sz)) (F0 m_ 2 ls []) := by
    intro fuel
    induction fuel with
    | zero => intro t gw H locs ls hm; exact absurd hm (Nat.not_lt_zero _)
    | succ fuel ih_2 =>
      intro t gw H locs ls hm ht hgg hW hl
      have hO : gw i = .inr (11, [.ref (A (i + 1)), .ref (A (i + 2)), .ref (A (i + 3)), .ref (A (i + 4)), .int (iI (q 0)), .ref (A (i + 5)), .ref (A (i + 6)), .ref (A (i + 7)), .ref (A (i + 8)), .int (iI (q 1)), .ref (A (i + 9)), .ref (A (i + 10)), .ref (A (i + 11)), .int (iI (q 2)), .ref (A (i + 12)), .ref (A (i + 13)), .int (iI (q 3)), .ref (A (i + 14)), .ref (A (i + 15)), .ref (A (i + 16)), .int (iI (q 4))]) := by rw [hgg]; exact hO
      have h16 : gw (i + 16) = aI E 50 fh := by rw [hgg]; exact h16
      have hwt := (hfh t (by omega)).2
      refine lv_aload_n X.1 X.2.1 dX11_placeOf_2 rfl (lv_at hl 0 rfl) ?_
      refine x_get (C := RX11) (T := TX11) (N := 21) X hW (by omega) hO rfl lk_0 19 (by decide) lk_1 rfl dX11_placeOf_3 ?_
      refine lv_iload_n X.1 X.2.1 dX11_placeOf_6 rfl (lv_at hl 2 rfl) ?_
      refine x_iald X hW (by omega) h16 (v := iI (((hd t : Nat) : Int))) t (by omega) (by omega) (by decide) ((hfh t (by omega)).1) dX11_placeOf_7 ?_
      refine lv_iload_n X.1 X.2.1 dX11_placeOf_8 rfl (lv_at hl 1 rfl) ?_
      refine x_icmp_eq (tgt := 18) X ⟨by omega, by omega⟩ ⟨by omega, by omega⟩ dX11_placeOf_9 (by decide) (fun b_9 => ?_) (fun b_9 => ?_)
      · have heq : t = h0 := Decidable.byContradiction (fun h9 => by have := hasc t h0 (by omega) hh0; omega)
        refine lv_iload_n X.1 X.2.1 dX11_placeOf_18 rfl (lv_at hl 2 rfl) ?_
        exact x_iret X hr hlk hW (⟨by rw [heq], hgg⟩) dX11_placeOf_19
      · have hne : t + 1 ≤ h0 := Decidable.byContradiction (fun h9 => b_9 (by rw [show t = h0 from by omega]))
        refine lv_iinc (v := iI (((t + 1 : Nat) : Int))) (lv' := [(2, .int (iI (((t + 1 : Nat) : Int)))), (0, .ref (A (i))), (1, .int (iI (((hd h0 : Nat) : Int))))]) X.1 X.2.1 dX11_placeOf_12 hl (k := 2) rfl (by rw [show (Int32.ofInt (1)) = iI (1) from rfl, iI_add]; rfl) (by decide) rfl (fun ls hl => ?_)
        refine lv_goto (tgt := 2) X.1 X.2.1 dX11_placeOf_15 (by decide) ?_
        exact ih_2 (t + 1) gw _ _ _ (by omega) hne hgg hW (lv_sub hl [1, 2, 0] rfl)
  exact loop_2 _ 0 g _ _ _ (Nat.lt_succ_self _) (Nat.zero_le _) rfl hW (lv_sub hl [1, 2, 0] rfl)
