/-! ===== the class's Boxes ===== -/
/-- the boxes in order: a row of their numbers, the greatest fair bar first -/
def SortO (xz : Nat) (od : Nat → Nat) (P : Nat → Int) (Q : Nat → Nat) : Prop := (∀ k, k < xz → od k < xz) ∧ (∀ a b, a < b → b < xz → od a ≠ od b) ∧ ∀ a b, a < b → b < xz → P (od b) * (Q (od a) : Int) ≤ P (od a) * (Q (od b) : Int)
def FairR (P : Int) (Q : Nat) : Prop := -8000000 ≤ P ∧ P ≤ 8000000 ∧ 0 < Q ∧ Q ≤ 8000
def BoxV (E : wE) (A : Nat → Nat) (g : Nat → va_E) (i xz : Nat) (bc px : Nat → Nat) (P : Nat → Int) (Q od : Nat → Nat) : Prop := g i = .inr (1, [.ref (A (i + 1)), .ref (A (i + 6)), .ref (A (i + 11)), .ref (A (i + 12)), .ref (A (i + 13)), .ref (A (i + 14)), .ref (A (i + 15)), .ref (A (i + 17))]) ∧ CrowdV E A g (i + 1) xz bc ∧ xz ≤ 6 ∧ (∃ (oz : Nat) (ob : Nat → Nat), CrowdV E A g (i + 6) oz ob) ∧ (∃ fp ft fb fo : Nat → Int32, g (i + 11) = aI E 6 fp ∧ g (i + 12) = aI E 6 ft ∧ g (i + 13) = aI E 6 fb ∧ g (i + 14) = aI E 6 fo ∧ ∀ k, k < xz → (px k ≤ 1000 ∧ fp k = iI ((px k : Nat) : Int)) ∧ ft k = iI (P k) ∧ fb k = iI ((Q k : Nat) : Int) ∧ FairR (P k) (Q k) ∧ fo k = iI ((od k : Nat) : Int)) ∧ SortO xz od P Q ∧ NatX E A g (i + 15) ∧ NatX E A g (i + 17)
theorem BoxV.frame {E : wE} {A : Nat → Nat} {g g' : Nat → va_E} {i xz : Nat} {bc px : Nat → Nat} {P : Nat → Int} {Q od : Nat → Nat} (h : BoxV E A g i xz bc px P Q od) (hf : ∀ j, i ≤ j → j ≤ i + 18 → g' j = g j) : BoxV E A g' i xz bc px P Q od := by
  obtain ⟨h0, h1, h2, ⟨oz, ob, h3⟩, ⟨fp, ft, fb, fo, a1, a2, a3, a4, a5⟩, h5, n1, n2⟩ := h
  exact ⟨(hf _ (by omega) (by omega)).trans h0, h1.frame (hf _ (by omega) (by omega)) (hf _ (by omega) (by omega)), h2, ⟨oz, ob, h3.frame (hf _ (by omega) (by omega)) (hf _ (by omega) (by omega))⟩, ⟨fp, ft, fb, fo, (hf _ (by omega) (by omega)).trans a1, (hf _ (by omega) (by omega)).trans a2, (hf _ (by omega) (by omega)).trans a3, (hf _ (by omega) (by omega)).trans a4, a5⟩, h5, n1.frame (hf _ (by omega) (by omega)) (hf _ (by omega) (by omega)), n2.frame (hf _ (by omega) (by omega)) (hf _ (by omega) (by omega))⟩
theorem ge_tot (L : List (Nat × Nat)) (x : Nat) : bBelow L ((x : Nat) : Int) + bGe L x = bE L (fun _ => 1) := by
  unfold bBelow bGe
  rw [← bE_add]
  apply bE_same
  intro y
  by_cases h : x ≤ y
  · rw [if_neg (by omega), if_pos h]
  · rw [if_pos (by omega), if_neg h]
/-- the greatest of the bars of the worths below nx -/
def FB (L : List (Nat × Nat)) (cost : Int) (nx : Nat) (P : Int) (Q : Nat) : Prop := (Q = 0 ∧ ∀ y, y < nx → bMass L y = 0) ∨ (0 < Q ∧ (∃ b : Nat, bGe L b = Q ∧ P = (bGath L (b : Int) : Nat) - cost) ∧ ∀ y, y < nx → 0 < bMass L y → ((bGath L (y : Int) : Nat) - cost) * (Q : Int) ≤ P * (bGe L y : Nat))
theorem FB_take {L : List (Nat × Nat)} {cost P : Int} {nx x Q : Nat} (h : FB L cost nx P Q) (hx : nx ≤ x) (hn : ∀ y, nx ≤ y → y < x → bMass L y = 0) (hm : 0 < bMass L x) (hc : Q = 0 ∨ P * (bGe L x : Nat) < ((bGath L (x : Int) : Nat) - cost) * (Q : Int)) : FB L cost (x + 1) ((bGath L (x : Int) : Nat) - cost) (bGe L x) := by
  have hg : 0 < bGe L x := by have := ge_step L x; omega
  refine Or.inr ⟨hg, ⟨x, rfl, rfl⟩, fun y hy hy2 => ?_⟩
  by_cases e : y = x
  · subst e; exact Int.le_refl _
  · by_cases e2 : y < nx
    · rcases h with ⟨_, h⟩ | ⟨h1, _, h⟩
      · rw [h y e2] at hy2; exact absurd hy2 (by omega)
      · have k1 := h y e2 hy2
        rcases hc with hc | hc
        · omega
        · exact fr_trans h1 k1 (Int.le_of_lt hc)
    · rw [hn y (by omega) (by omega)] at hy2; exact absurd hy2 (by omega)
theorem FB_keep {L : List (Nat × Nat)} {cost P : Int} {nx x Q : Nat} (h : FB L cost nx P Q) (hx : nx ≤ x) (hn : ∀ y, nx ≤ y → y < x → bMass L y = 0) (hq : 0 < Q) (hc : ¬ P * (bGe L x : Nat) < ((bGath L (x : Int) : Nat) - cost) * (Q : Int)) : FB L cost (x + 1) P Q := by
  rcases h with ⟨h, _⟩ | ⟨h1, h2, h⟩
  · omega
  · refine Or.inr ⟨h1, h2, fun y hy hy2 => ?_⟩
    by_cases e : y = x
    · subst e; omega
    · by_cases e2 : y < nx
      · exact h y e2 hy2
      · rw [hn y (by omega) (by omega)] at hy2; exact absurd hy2 (by omega)
theorem ge_flat {L : List (Nat × Nat)} {a b : Nat} (h : ∀ y, a ≤ y → y < b → bMass L y = 0) (hab : a ≤ b) : bGe L b = bGe L a := by
  have e1 := ge_tot L a
  have e2 := ge_tot L b
  have e3 := below_flat h hab
  omega
theorem ge_least {L : List (Nat × Nat)} {b : Nat} (h : 0 < bGe L b) : ∃ y, b ≤ y ∧ 0 < bMass L y ∧ ∀ t, b ≤ t → t < y → bMass L t = 0 := by
  apply Classical.byContradiction
  intro hc
  have hz : ∀ t, b ≤ t → bMass L t = 0 := by
    intro t
    induction t using Nat.strongRecOn with
    | ind t ih =>
      intro ht
      apply Decidable.byContradiction
      intro h0
      exact hc ⟨t, ht, by omega, fun u h1 h2 => ih u h2 h1⟩
  have e1 := ge_tot L b
  have e2 := below_all hz
  omega
theorem FB_fair {L : List (Nat × Nat)} {cost P : Int} {nx Q : Nat} (h : FB L cost nx P Q) (hz : ∀ y, nx ≤ y → bMass L y = 0) (ht : 0 < bE L (fun _ => 1)) : FairV L cost P Q := by
  have hg0 : 0 < bGe L 0 := by rw [ge_all]; exact ht
  rcases h with ⟨_, h⟩ | ⟨h1, h2, h⟩
  · obtain ⟨y, _, hm, _⟩ := ge_least hg0
    by_cases e : y < nx
    · rw [h y e] at hm; exact absurd hm (by omega)
    · rw [hz y (by omega)] at hm; exact absurd hm (by omega)
  · refine ⟨h1, fun b hb => ?_, h2⟩
    obtain ⟨y, hy, hm, hf⟩ := ge_least hb
    rw [← ge_flat hf hy, ← gath_flat hf hy]
    by_cases e : y < nx
    · exact h y e hm
    · rw [hz y (by omega)] at hm; exact absurd hm (by omega)
theorem SortO_ins {xz p : Nat} {od : Nat → Nat} {P : Nat → Int} {Q : Nat → Nat} (h : SortO xz od P Q) (hp : p ≤ xz) (h1 : ∀ a, a < p → P xz * (Q (od a) : Int) ≤ P (od a) * (Q xz : Int)) (h2 : ∀ a, p ≤ a → a < xz → P (od a) * (Q xz : Int) ≤ P xz * (Q (od a) : Int)) : SortO (xz + 1) (ins od p xz) P Q := by
  have hr : ∀ k, k < xz + 1 → ins od p xz k < xz + 1 := by
    intro k hk
    rcases Nat.lt_trichotomy k p with e | e | e
    · rw [ins_lt e]; have := h.1 k (by omega); omega
    · rw [e, ins_eq]; omega
    · rw [ins_gt e]; have := h.1 (k - 1) (by omega); omega
  refine ⟨hr, fun a b hab hb => ?_, fun a b hab hb => ?_⟩
  · rcases Nat.lt_trichotomy a p with ea | ea | ea
    · rw [ins_lt ea]
      rcases Nat.lt_trichotomy b p with eb | eb | eb
      · rw [ins_lt eb]; exact h.2.1 a b hab (by omega)
      · rw [eb, ins_eq]; have := h.1 a (by omega); omega
      · rw [ins_gt eb]; exact h.2.1 a (b - 1) (by omega) (by omega)
    · rw [ea, ins_eq, ins_gt (by omega)]; have := h.1 (b - 1) (by omega); omega
    · rw [ins_gt ea, ins_gt (by omega)]; exact h.2.1 (a - 1) (b - 1) (by omega) (by omega)
  · rcases Nat.lt_trichotomy a p with ea | ea | ea
    · rw [ins_lt ea]
      rcases Nat.lt_trichotomy b p with eb | eb | eb
      · rw [ins_lt eb]; exact h.2.2 a b hab (by omega)
      · rw [eb, ins_eq]; exact h1 a ea
      · rw [ins_gt eb]; exact h.2.2 a (b - 1) (by omega) (by omega)
    · rw [ea, ins_eq, ins_gt (by omega)]; exact h2 (b - 1) (by omega) (by omega)
    · rw [ins_gt ea, ins_gt (by omega)]; exact h.2.2 (a - 1) (b - 1) (by omega) (by omega)

set_option maxHeartbeats 4000000 in
set_option maxRecDepth 100000 in
/-- isAbove -/
theorem c_X1_isAbove (l : Launch) (E : wE) (A : Nat → Nat) (n sz : Nat) (g : Nat → va_E) (i k : Nat) (ft fb : Nat → Int32) (tp P : Int) (bt Q : Nat) (hi : i + 18 < n) (h0 : g i = .inr (1, [.ref (A (i + 1)), .ref (A (i + 6)), .ref (A (i + 11)), .ref (A (i + 12)), .ref (A (i + 13)), .ref (A (i + 14)), .ref (A (i + 15)), .ref (A (i + 17))])) (h12 : g (i + 12) = aI E 6 ft) (h13 : g (i + 13) = aI E 6 fb) (hk : k < 6) (hft : ft k = iI P) (hfb : fb k = iI ((Q : Nat) : Int)) (ht1 : -8000000 ≤ tp) (ht2 : tp ≤ 8000000) (hb2 : bt ≤ 8000) (hP1 : -8000000 ≤ P) (hP2 : P ≤ 8000000) (hQ2 : Q ≤ 8000) : Met l yX1_isAbove wsX1_isAbove ({ frames := 1, cells := 0, slots := 0, locals := 60 } : Room) (va_Pc [.ref (A (i)), .long (lI (tp)), .long (lI ((bt : Int))), .int (iI ((k : Int)))] (wPre E A n sz g)) (va_Qi (fun r g' => r = iI (if P * (bt : Int) < tp * (Q : Int) then 1 else 0) ∧ g' = g) (wAt E A n) (wF A n sz)) 0 0 (wF A n sz) := by
  refine x_met (cc := cX1_isAbove) (maxL := 6) (ret := (some .boolean)) [.ref (A (i)), .long (lI (tp)), .long (lI ((bt : Int))), .int (iI ((k : Int)))] (by decide) rfl (Nat.le_of_ble_eq_true rfl) ?_
  intro p_ e_ s_ m_ below meth c_ ls X hr hlk hnm hsz hW hl
  have hl : lv_has ls 6 [(0, .ref (A (i))), (1, .long (lI (tp))), (3, .long (lI ((bt : Int)))), (5, .int (iI ((k : Int))))] := hl
  have lk_0 : ∀ w ∈ wsX10, w ∈ wsX1_isAbove := by decide +kernel
  have lk_1 : Cond.fieldLink RX1 28 (TX1 4).1 (TX1 4).2.1 (TX1 4).2.2.1 ∈ wsX1_isAbove := by decide +kernel
  have lk_2 : Cond.fieldLink RX1 25 (TX1 3).1 (TX1 3).2.1 (TX1 3).2.2.1 ∈ wsX1_isAbove := by decide +kernel
  have hm1 := mul_rng (a := tp) (b := (Q : Int)) 8000000 8000 (by omega) (by omega) (by omega) (by omega)
  have hm2 := mul_rng (a := P) (b := (bt : Int)) 8000000 8000 (by omega) (by omega) (by omega) (by omega)
  refine lv_lload_n X.1 X.2.1 dX1_isAbove_0 rfl (lv_at hl 1 rfl) ?_
  refine lv_aload_n X.1 X.2.1 dX1_isAbove_1 rfl (lv_at hl 0 rfl) ?_
  refine x_get (C := RX1) (T := TX1) (N := 8) X hW (by omega) h0 rfl lk_0 4 (by decide) lk_1 rfl dX1_isAbove_2 ?_
  refine lv_iload X.1 X.2.1 dX1_isAbove_5 (lv_at hl 3 rfl) ?_
  refine x_iald X hW (by omega) h13 (v := iI (((Q : Nat) : Int))) k (by omega) (by omega) (by decide) hfb dX1_isAbove_7 ?_
  refine x_i2l X ⟨by omega, by omega⟩ dX1_isAbove_8 ?_
  refine x_lmul X dX1_isAbove_9 ?_
  refine lv_aload_n X.1 X.2.1 dX1_isAbove_10 rfl (lv_at hl 0 rfl) ?_
  refine x_get (C := RX1) (T := TX1) (N := 8) X hW (by omega) h0 rfl lk_0 3 (by decide) lk_2 rfl dX1_isAbove_11 ?_
  refine lv_iload X.1 X.2.1 dX1_isAbove_14 (lv_at hl 3 rfl) ?_
  refine x_iald X hW (by omega) h12 (v := iI (P)) k (by omega) (by omega) (by decide) hft dX1_isAbove_16 ?_
  refine x_i2l X ⟨by omega, by omega⟩ dX1_isAbove_17 ?_
  refine lv_lload_n X.1 X.2.1 dX1_isAbove_18 rfl (lv_at hl 2 rfl) ?_
  refine x_lmul X dX1_isAbove_19 ?_
  refine x_lcmp_le (tgt := 28) X ⟨by omega, by omega⟩ ⟨by omega, by omega⟩ dX1_isAbove_20 dX1_isAbove_21 (by decide) (fun b_20 => ?_) (fun b_20 => ?_)
  · refine x_iconst X dX1_isAbove_28 ?_
    exact x_zret X hr hlk (by decide) hW (⟨by rw [if_neg (by omega)], rfl⟩) dX1_isAbove_29
  · refine x_iconst X dX1_isAbove_24 ?_
    refine lv_goto (tgt := 29) X.1 X.2.1 dX1_isAbove_25 (by decide) ?_
    exact x_zret X hr hlk (by decide) hW (⟨by rw [if_pos (by omega)], rfl⟩) dX1_isAbove_29

theorem lv1_step {L : List (Nat × Nat)} {nx x : Nat} (hm : 0 < bMass L x) (h : nx ≤ x) : lv1 L nx + 1 ≤ lv1 L (x + 1) := by
  have a := sm_mono (fun y => if 0 < bMass L y then 1 else 0) h
  show sm _ nx + 1 ≤ sm _ x + (if 0 < bMass L x then 1 else 0)
  rw [if_pos hm]; omega

set_option maxHeartbeats 4000000 in
set_option maxRecDepth 100000 in
/-- findFairBar -/
theorem c_X1_findFairBar (l : Launch) (E : wE) (A : Nat → Nat) (n sz : Nat) (g : Nat → va_E) (i xz k : Nat) (bc : Nat → Nat) (L : List (Nat × Nat)) (px0 : Nat) (fp ft fb : Nat → Int32) (hi : i + 18 < n) (h0 : g i = .inr (1, [.ref (A (i + 1)), .ref (A (i + 6)), .ref (A (i + 11)), .ref (A (i + 12)), .ref (A (i + 13)), .ref (A (i + 14)), .ref (A (i + 15)), .ref (A (i + 17))])) (hC : CrowdV E A g (i + 1) xz bc) (hk : k < xz) (hx6 : xz ≤ 6) (hbn : bc k + 2 < n) (hbv : BookV E A g (bc k) L) (hdb : i + 18 < bc k ∨ bc k + 2 < i) (h11 : g (i + 11) = aI E 6 fp) (h12 : g (i + 12) = aI E 6 ft) (h13 : g (i + 13) = aI E 6 fb) (hfp : fp k = iI ((px0 : Nat) : Int)) (hp0 : px0 ≤ 1000) (htp : 0 < bE L (fun _ => 1)) : Met l yX1_findFairBar wsX1_findFairBar ({ frames := 3, cells := 0, slots := 0, locals := 120 } : Room) (va_Pc [.ref (A (i)), .int (iI ((k : Int)))] (wPre E A n sz g)) (va_Qv (fun g' => (∃ (P : Int) (Q : Nat) (ft' fb' : Nat → Int32), FairV L ((px0 * bE L (fun _ => 1) : Nat) : Int) P Q ∧ FairR P Q ∧ g' (i + 12) = aI E 6 ft' ∧ g' (i + 13) = aI E 6 fb' ∧ ft' k = iI P ∧ fb' k = iI ((Q : Nat) : Int) ∧ ∀ j, j ≠ k → ft' j = ft j ∧ fb' j = fb j) ∧ ∀ j, (j ≠ i + 12 ∧ j ≠ i + 13) → g' j = g j) (wAt E A n) (wF A n sz)) 0 0 (wF A n sz) := by
  refine x_met (cc := cX1_findFairBar) (maxL := 8) (ret := none) [.ref (A (i)), .int (iI ((k : Int)))] (by decide) rfl (Nat.le_of_ble_eq_true rfl) ?_
  intro p_ e_ s_ m_ below meth c_ ls X hr hlk hnm hsz hW hl
  have hl : lv_has ls 8 [(0, .ref (A (i))), (1, .int (iI ((k : Int))))] := hl
  have lk_0 : ∀ w ∈ wsX10, w ∈ wsX1_findFairBar := by decide +kernel
  have lk_1 : Cond.fieldLink RX1 12 (TX1 0).1 (TX1 0).2.1 (TX1 0).2.2.1 ∈ wsX1_findFairBar := by decide +kernel
  have lk_2 : Cond.fieldLink RX1 21 (TX1 2).1 (TX1 2).2.1 (TX1 2).2.2.1 ∈ wsX1_findFairBar := by decide +kernel
  have lk_3 : Cond.fieldLink RX1 28 (TX1 4).1 (TX1 4).2.1 (TX1 4).2.2.1 ∈ wsX1_findFairBar := by decide +kernel
  have lk_4 : Cond.fieldLink RX1 25 (TX1 3).1 (TX1 3).2.1 (TX1 3).2.2.1 ∈ wsX1_findFairBar := by decide +kernel
  have h0g := h0
  have hCg := hC
  have hbvg := hbv
  have h11g := h11
  have hc0 := hC.1
  obtain ⟨bz0, wo0, we0, tot0, hbc0, hbp0⟩ := id hbv
  have hbo := hbc0.1
  have hbog := hbo
  have hfr : ∀ j, (j ≠ i + 12 ∧ j ≠ i + 13) → g j = g j := fun _ _ => rfl
  have ht8 := hbv.tot
  have hco : px0 * bE L (fun _ => 1) ≤ 1000 * 8000 := Nat.mul_le_mul hp0 ht8
  refine lv_aload_n X.1 X.2.1 dX1_findFairBar_0 rfl (lv_at hl 0 rfl) ?_
  refine x_get (C := RX1) (T := TX1) (N := 8) X hW (by omega) h0 rfl lk_0 0 (by decide) lk_1 rfl dX1_findFairBar_1 ?_
  refine lv_iload_n X.1 X.2.1 dX1_findFairBar_4 rfl (lv_at hl 1 rfl) ?_
  refine x_cr (x_runV (k := 1) (As := [.int (iI ((k : Int)))]) (rest := []) X hW (c_X3_at l E A n _ g (i + 1) xz bc k (by omega) hC hk) (by omega) hc0 rfl gX1_findFairBar_X3_at rfl rfl rfl (by decide +kernel) ⟨by decide, by decide⟩ rfl hl.1 rfl (Nat.le_of_ble_eq_true rfl) dX1_findFairBar_5 ⟨Nat.zero_le _, Nat.zero_le _⟩) hW (fun j_5 g_5 H locs hp_5 hW => ?_)
  have hj_5 : j_5 = bc k := hp_5.1
  have he_5 : g_5 = g := hp_5.2
  rw [he_5] at hW
  subst hj_5
  refine lv_astore_n (lv' := [(2, .ref (A (bc k))), (0, .ref (A (i))), (1, .int (iI ((k : Int))))]) X.1 X.2.1 dX1_findFairBar_8 rfl hl (by decide) rfl (fun ls hl => ?_)
  refine lv_aload_n X.1 X.2.1 dX1_findFairBar_9 rfl (lv_at hl 1 rfl) ?_
  refine x_get (C := RX1) (T := TX1) (N := 8) X hW (by omega) h0 rfl lk_0 2 (by decide) lk_2 rfl dX1_findFairBar_10 ?_
  refine lv_iload_n X.1 X.2.1 dX1_findFairBar_13 rfl (lv_at hl 2 rfl) ?_
  refine x_iald X hW (by omega) h11 (v := iI (((px0 : Nat) : Int))) k (by omega) (by omega) (by decide) hfp dX1_findFairBar_14 ?_
  refine lv_aload_n X.1 X.2.1 dX1_findFairBar_15 rfl (lv_at hl 0 rfl) ?_
  refine x_ci (x_runV (k := 0) (As := []) (rest := [.int (iI (((px0 : Nat) : Int)))]) X hW (c_X0_total l E A n _ g (bc k) L hbn hbv) (by omega) hbo rfl gX1_findFairBar_X0_total rfl rfl rfl (by decide +kernel) ⟨by decide, by decide⟩ rfl hl.1 rfl (Nat.le_of_ble_eq_true rfl) dX1_findFairBar_16 ⟨Nat.zero_le _, Nat.zero_le _⟩) hW (fun r_16 g_16 H locs hp_16 hW => ?_)
  obtain ⟨hr_16, he_16⟩ := hp_16
  rw [he_16] at hW
  subst hr_16
  refine x_imul X dX1_findFairBar_19 ?_
  refine x_seti (((px0 * bE L (fun _ => 1) : Nat) : Int)) ((Int.natCast_mul _ _).symm) ?_
  refine lv_istore_n (lv' := [(3, .int (iI (((px0 * bE L (fun _ => 1) : Nat) : Int)))), (2, .ref (A (bc k))), (0, .ref (A (i))), (1, .int (iI ((k : Int))))]) X.1 X.2.1 dX1_findFairBar_20 rfl hl (by decide) rfl (fun ls hl => ?_)
  refine lv_aload_n X.1 X.2.1 dX1_findFairBar_21 rfl (lv_at hl 2 rfl) ?_
  refine x_get (C := RX1) (T := TX1) (N := 8) X hW (by omega) h0 rfl lk_0 4 (by decide) lk_3 rfl dX1_findFairBar_22 ?_
  refine lv_iload_n X.1 X.2.1 dX1_findFairBar_25 rfl (lv_at hl 3 rfl) ?_
  refine x_iconst X dX1_findFairBar_26 ?_
  refine x_seti (((0 : Nat) : Int)) rfl ?_
  refine x_iast X hW (by omega) h13 k (by omega) (by omega) (by decide) dX1_findFairBar_27 (fun g_27 H locs hg_27 hW => ?_)
  have h0 : g_27 i = .inr (1, [.ref (A (i + 1)), .ref (A (i + 6)), .ref (A (i + 11)), .ref (A (i + 12)), .ref (A (i + 13)), .ref (A (i + 14)), .ref (A (i + 15)), .ref (A (i + 17))]) := by rw [hg_27, va_up_ne _ _ (by omega)]; exact h0
  have hc0 : g_27 (i + 1) = .inr (3, [.ref (A (i + 1 + 1)), .ref (A (i + 1 + 4)), .int (iI ((xz : Int)))]) := by rw [hg_27, va_up_ne _ _ (by omega)]; exact hc0
  have h11 : g_27 (i + 11) = aI E 6 fp := by rw [hg_27, va_up_ne _ _ (by omega)]; exact h11
  have h12 : g_27 (i + 12) = aI E 6 ft := by rw [hg_27, va_up_ne _ _ (by omega)]; exact h12
  have hbo : g_27 (bc k) = .inr (0, [.ref (A (bc k + 1)), .ref (A (bc k + 2)), .int (iI ((bz0 : Int))), .int (iI ((tot0 : Int)))]) := by rw [hg_27, va_up_ne _ _ (by omega)]; exact hbo
  have h13 : g_27 (i + 13) = aI E 6 (upd fb k (iI (((0 : Nat) : Int)))) := by rw [hg_27]; exact va_up_self _ _ _
  have hbv : BookV E A g_27 (bc k) L := hbv.frame (by rw [hg_27, va_up_ne _ _ (by omega)]) (by rw [hg_27, va_up_ne _ _ (by omega)]) (by rw [hg_27, va_up_ne _ _ (by omega)])
  have hfr : ∀ j, (j ≠ i + 12 ∧ j ≠ i + 13) → g_27 j = g j := fun j hj => (show g_27 j = g j by rw [hg_27, va_up_ne _ _ (by omega)]).trans (hfr j hj)
  refine lv_aload_n X.1 X.2.1 dX1_findFairBar_28 rfl (lv_at hl 1 rfl) ?_
  refine x_iconst X dX1_findFairBar_29 ?_
  refine x_seti (((0 : Nat) : Int)) rfl ?_
  refine x_ci (x_runV (k := 1) (As := [.int (iI (((0 : Nat) : Int)))]) (rest := []) X hW (c_X0_leastFrom l E A n _ g_27 (bc k) L (((0 : Nat) : Int)) hbn hbv ⟨by omega, by omega⟩) (by omega) hbo rfl gX1_findFairBar_X0_leastFrom rfl rfl rfl (by decide +kernel) ⟨by decide, by decide⟩ rfl hl.1 rfl (Nat.le_of_ble_eq_true rfl) dX1_findFairBar_30 ⟨Nat.zero_le _, Nat.zero_le _⟩) hW (fun r_30 g_30 H locs hp_30 hW => ?_)
  obtain ⟨⟨z_30, hz_30, hL_30⟩, he_30⟩ := hp_30
  rw [he_30] at hW
  subst hz_30
  have hzr_30 := LF_rng hL_30
  refine lv_istore (lv' := [(4, .int (iI (z_30))), (3, .int (iI (((px0 * bE L (fun _ => 1) : Nat) : Int)))), (2, .ref (A (bc k))), (0, .ref (A (i))), (1, .int (iI ((k : Int))))]) X.1 X.2.1 dX1_findFairBar_33 hl (by decide) rfl (fun ls hl => ?_)
  refine x_iconst X dX1_findFairBar_35 ?_
  refine x_seti (((0 : Nat) : Int)) rfl ?_
  refine lv_istore (lv' := [(5, .int (iI (((0 : Nat) : Int)))), (4, .int (iI (z_30))), (3, .int (iI (((px0 * bE L (fun _ => 1) : Nat) : Int)))), (2, .ref (A (bc k))), (0, .ref (A (i))), (1, .int (iI ((k : Int))))]) X.1 X.2.1 dX1_findFairBar_36 hl (by decide) rfl (fun ls hl => ?_)
  have loop_38 : ∀ (fuel : Nat) (c : Nat) (z : Int) (nx : Nat) (P : Int) (Q : Nat) (f2 : Nat → Int32) (b2 : Nat → Int32) (gw : Nat → va_E) (H : Heap) (locs : List Loc) (ls : Array Slot), (9 - c) < fuel → (c ≤ lv1 L nx) → (LF L (nx : Int) z) → (nx ≤ 1001) → (FB L ((px0 * bE L (fun _ => 1) : Nat) : Int) nx P Q) → ((0 < Q → -8000000 ≤ P ∧ P ≤ 8000000) ∧ Q ≤ 8000) → (gw (i + 12) = aI E 6 f2) → (gw (i + 13) = aI E 6 b2) → (f2 k = iI P) → (b2 k = iI ((Q : Nat) : Int)) → (∀ j, j ≠ k → f2 j = ft j ∧ b2 j = fb j) → (∀ j, (j ≠ i + 12 ∧ j ≠ i + 13) → gw j = g j) → wH E (wF A n sz) A n s_ gw H locs → lv_has ls 8 [(0, .ref (A (i))), (1, .int (iI ((k : Int)))), (2, .ref (A (bc k))), (3, .int (iI (((px0 * bE L (fun _ => 1) : Nat) : Int)))), (4, .int (iI (z))), (5, .int (iI (((c : Nat) : Int))))] → W p_ l e_ ({ frames := 3, cells := 0, slots := 0, locals := 120 } : Room) s_ m_ [.ref (A (i)), .int (iI ((k : Int)))].toArray below meth c_ H locs 0 0 (MQ below (va_Qv (fun g' => (∃ (P : Int) (Q : Nat) (ft' fb' : Nat → Int32), FairV L ((px0 * bE L (fun _ => 1) : Nat) : Int) P Q ∧ FairR P Q ∧ g' (i + 12) = aI E 6 ft' ∧ g' (i + 13) = aI E 6 fb' ∧ ft' k = iI P ∧ fb' k = iI ((Q : Nat) : Int) ∧ ∀ j, j ≠ k → ft' j = ft j ∧ fb' j = fb j) ∧ ∀ j, (j ≠ i + 12 ∧ j ≠ i + 13) → g' j = g j) (wAt E A n) (wF A n sz)) [.ref (A (i)), .int (iI ((k : Int)))].toArray s_ 0 0 (wF A n sz)) (F0 m_ 38 ls []) := by
    intro fuel
    induction fuel with
    | zero => intro c z nx P Q f2 b2 gw H locs ls hm; exact absurd hm (Nat.not_lt_zero _)
    | succ fuel ih_38 =>
      intro c z nx P Q f2 b2 gw H locs ls hm hc hL hnx hFB hPr h12 h13 hP hQ ho hfr hW hl
      have h0 : gw i = .inr (1, [.ref (A (i + 1)), .ref (A (i + 6)), .ref (A (i + 11)), .ref (A (i + 12)), .ref (A (i + 13)), .ref (A (i + 14)), .ref (A (i + 15)), .ref (A (i + 17))]) := (hfr _ (by omega)).trans h0g
      have hbv : BookV E A gw (bc k) L := hbvg.frame (hfr _ (by omega)) (hfr _ (by omega)) (hfr _ (by omega))
      have hbo : gw (bc k) = .inr (0, [.ref (A (bc k + 1)), .ref (A (bc k + 2)), .int (iI ((bz0 : Int))), .int (iI ((tot0 : Int)))]) := (hfr _ (by omega)).trans hbog
      have hlv := lv1_le hbvg nx
      refine lv_iload X.1 X.2.1 dX1_findFairBar_38 (lv_at hl 5 rfl) ?_
      refine x_bipush X (by decide) dX1_findFairBar_40 ?_
      refine x_icmp_ge (tgt := 129) X ⟨by omega, by omega⟩ ⟨by decide, by decide⟩ dX1_findFairBar_42 (by decide) (fun b_42 => ?_) (fun b_42 => ?_)
      · have hz1 : z = -1 := Decidable.byContradiction (fun h9 => by
          obtain ⟨x, hzx, hx1, hx2, hm9, hx4⟩ := hL.resolve_left (fun h8 => h9 h8.1)
          have h7 := lv1_step hm9 (show nx ≤ x by omega)
          have h6 := lv1_le hbvg (x + 1)
          omega)
        have hnone : ∀ y, nx ≤ y → bMass L y = 0 := fun y hy => (hL.resolve_right (fun h9 => by obtain ⟨x8, h8, _⟩ := h9; omega)).2 y (by omega)
        have hFr : FairR P Q := ⟨(hPr.1 (FB_fair hFB hnone htp).1).1, (hPr.1 (FB_fair hFB hnone htp).1).2, (FB_fair hFB hnone htp).1, hPr.2⟩
        exact x_vret X hr hlk hW (⟨⟨P, Q, f2, b2, FB_fair hFB hnone htp, hFr, h12, h13, hP, hQ, ho⟩, hfr⟩) dX1_findFairBar_129
      · have hzr := LF_rng hL
        refine lv_iload X.1 X.2.1 dX1_findFairBar_45 (lv_at hl 4 rfl) ?_
        refine x_iconst X dX1_findFairBar_47 ?_
        refine x_icmp_eq (tgt := 129) X ⟨by omega, by omega⟩ ⟨by decide, by decide⟩ dX1_findFairBar_48 (by decide) (fun b_48 => ?_) (fun b_48 => ?_)
        · have hz1 : z = -1 := b_48
          have hnone : ∀ y, nx ≤ y → bMass L y = 0 := fun y hy => (hL.resolve_right (fun h9 => by obtain ⟨x8, h8, _⟩ := h9; omega)).2 y (by omega)
          have hFr : FairR P Q := ⟨(hPr.1 (FB_fair hFB hnone htp).1).1, (hPr.1 (FB_fair hFB hnone htp).1).2, (FB_fair hFB hnone htp).1, hPr.2⟩
          exact x_vret X hr hlk hW (⟨⟨P, Q, f2, b2, FB_fair hFB hnone htp, hFr, h12, h13, hP, hQ, ho⟩, hfr⟩) dX1_findFairBar_129
        · obtain ⟨x, hzx, hx1, hx2, hm9, hx4⟩ := hL.resolve_left (fun h8 => b_48 h8.1)
          have hnx2 : nx ≤ x := by omega
          have hfl : ∀ y, nx ≤ y → y < x → bMass L y = 0 := fun y h1 h2 => hx4 y h2 (by omega)
          have hgl := hbvg.gle ((x : Nat) : Int)
          have hgt := ge_tot L x
          refine lv_aload_n X.1 X.2.1 dX1_findFairBar_51 rfl (lv_at hl 2 rfl) ?_
          refine lv_iload X.1 X.2.1 dX1_findFairBar_52 (lv_at hl 4 rfl) ?_
          refine x_seti (((x : Nat) : Int)) hzx ?_
          refine x_ci (x_runV (k := 1) (As := [.int (iI (((x : Nat) : Int)))]) (rest := []) X hW (c_X0_gathered l E A n _ gw (bc k) L ((x : Nat) : Int) hbn hbv ⟨by omega, by omega⟩) (by omega) hbo rfl gX1_findFairBar_X0_gathered rfl rfl rfl (by decide +kernel) ⟨by decide, by decide⟩ rfl hl.1 rfl (Nat.le_of_ble_eq_true rfl) dX1_findFairBar_54 ⟨Nat.zero_le _, Nat.zero_le _⟩) hW (fun r_54 g_54 H locs hp_54 hW => ?_)
          obtain ⟨hr_54, he_54⟩ := hp_54
          rw [he_54] at hW
          subst hr_54
          refine lv_iload_n X.1 X.2.1 dX1_findFairBar_57 rfl (lv_at hl 3 rfl) ?_
          refine x_isub X dX1_findFairBar_58 ?_
          refine lv_istore (lv' := [(6, .int (iI ((((bGath L ((x : Nat) : Int) : Nat) : Int)) - (((px0 * bE L (fun _ => 1) : Nat) : Int))))), (0, .ref (A (i))), (1, .int (iI ((k : Int)))), (2, .ref (A (bc k))), (3, .int (iI (((px0 * bE L (fun _ => 1) : Nat) : Int)))), (4, .int (iI (z))), (5, .int (iI (((c : Nat) : Int))))]) X.1 X.2.1 dX1_findFairBar_59 hl (by decide) rfl (fun ls hl => ?_)
          refine lv_aload_n X.1 X.2.1 dX1_findFairBar_61 rfl (lv_at hl 3 rfl) ?_
          refine x_ci (x_runV (k := 0) (As := []) (rest := []) X hW (c_X0_total l E A n _ gw (bc k) L hbn hbv) (by omega) hbo rfl gX1_findFairBar_X0_total rfl rfl rfl (by decide +kernel) ⟨by decide, by decide⟩ rfl hl.1 rfl (Nat.le_of_ble_eq_true rfl) dX1_findFairBar_62 ⟨Nat.zero_le _, Nat.zero_le _⟩) hW (fun r_62 g_62 H locs hp_62 hW => ?_)
          obtain ⟨hr_62, he_62⟩ := hp_62
          rw [he_62] at hW
          subst hr_62
          refine lv_aload_n X.1 X.2.1 dX1_findFairBar_65 rfl (lv_at hl 3 rfl) ?_
          refine lv_iload X.1 X.2.1 dX1_findFairBar_66 (lv_at hl 5 rfl) ?_
          refine x_seti (((x : Nat) : Int)) hzx ?_
          refine x_ci (x_runV (k := 1) (As := [.int (iI (((x : Nat) : Int)))]) (rest := [.int (iI (((bE L (fun _ => 1) : Nat) : Int)))]) X hW (c_X0_below l E A n _ gw (bc k) L ((x : Nat) : Int) hbn hbv ⟨by omega, by omega⟩) (by omega) hbo rfl gX1_findFairBar_X0_below rfl rfl rfl (by decide +kernel) ⟨by decide, by decide⟩ rfl hl.1 rfl (Nat.le_of_ble_eq_true rfl) dX1_findFairBar_68 ⟨Nat.zero_le _, Nat.zero_le _⟩) hW (fun r_68 g_68 H locs hp_68 hW => ?_)
          obtain ⟨hr_68, he_68⟩ := hp_68
          rw [he_68] at hW
          subst hr_68
          refine x_isub X dX1_findFairBar_71 ?_
          refine x_seti (((bGe L x : Nat) : Int)) (by omega) ?_
          refine lv_istore (lv' := [(7, .int (iI (((bGe L x : Nat) : Int)))), (6, .int (iI ((((bGath L ((x : Nat) : Int) : Nat) : Int)) - (((px0 * bE L (fun _ => 1) : Nat) : Int))))), (0, .ref (A (i))), (1, .int (iI ((k : Int)))), (2, .ref (A (bc k))), (3, .int (iI (((px0 * bE L (fun _ => 1) : Nat) : Int)))), (4, .int (iI (z))), (5, .int (iI (((c : Nat) : Int))))]) X.1 X.2.1 dX1_findFairBar_72 hl (by decide) rfl (fun ls hl => ?_)
          refine lv_aload_n X.1 X.2.1 dX1_findFairBar_74 rfl (lv_at hl 2 rfl) ?_
          refine x_get (C := RX1) (T := TX1) (N := 8) X hW (by omega) h0 rfl lk_0 4 (by decide) lk_3 rfl dX1_findFairBar_75 ?_
          refine lv_iload_n X.1 X.2.1 dX1_findFairBar_78 rfl (lv_at hl 3 rfl) ?_
          refine x_iald X hW (by omega) h13 (v := iI (((Q : Nat) : Int))) k (by omega) (by omega) (by decide) hQ dX1_findFairBar_79 ?_
          refine x_if_eq (tgt := 97) X ⟨by omega, by omega⟩ dX1_findFairBar_80 (by decide) (fun b_80 => ?_) (fun b_80 => ?_)
          · have htk : Q = 0 ∨ P * (bGe L x : Nat) < ((bGath L (x : Int) : Nat) - ((px0 * bE L (fun _ => 1) : Nat) : Int)) * (Q : Int) := Or.inl (by omega)
            refine lv_aload_n X.1 X.2.1 dX1_findFairBar_97 rfl (lv_at hl 2 rfl) ?_
            refine x_get (C := RX1) (T := TX1) (N := 8) X hW (by omega) h0 rfl lk_0 3 (by decide) lk_4 rfl dX1_findFairBar_98 ?_
            refine lv_iload_n X.1 X.2.1 dX1_findFairBar_101 rfl (lv_at hl 3 rfl) ?_
            refine lv_iload X.1 X.2.1 dX1_findFairBar_102 (lv_at hl 1 rfl) ?_
            refine x_iast X hW (by omega) h12 k (by omega) (by omega) (by decide) dX1_findFairBar_104 (fun g_104 H locs hg_104 hW => ?_)
            have h0 : g_104 i = .inr (1, [.ref (A (i + 1)), .ref (A (i + 6)), .ref (A (i + 11)), .ref (A (i + 12)), .ref (A (i + 13)), .ref (A (i + 14)), .ref (A (i + 15)), .ref (A (i + 17))]) := by rw [hg_104, va_up_ne _ _ (by omega)]; exact h0
            have h13 : g_104 (i + 13) = aI E 6 b2 := by rw [hg_104, va_up_ne _ _ (by omega)]; exact h13
            have hbo : g_104 (bc k) = .inr (0, [.ref (A (bc k + 1)), .ref (A (bc k + 2)), .int (iI ((bz0 : Int))), .int (iI ((tot0 : Int)))]) := by rw [hg_104, va_up_ne _ _ (by omega)]; exact hbo
            have h12 : g_104 (i + 12) = aI E 6 (upd f2 k (iI ((((bGath L ((x : Nat) : Int) : Nat) : Int)) - (((px0 * bE L (fun _ => 1) : Nat) : Int))))) := by rw [hg_104]; exact va_up_self _ _ _
            have hbv : BookV E A g_104 (bc k) L := hbv.frame (by rw [hg_104, va_up_ne _ _ (by omega)]) (by rw [hg_104, va_up_ne _ _ (by omega)]) (by rw [hg_104, va_up_ne _ _ (by omega)])
            have hfr : ∀ j, (j ≠ i + 12 ∧ j ≠ i + 13) → g_104 j = g j := fun j hj => (show g_104 j = gw j by rw [hg_104, va_up_ne _ _ (by omega)]).trans (hfr j hj)
            refine lv_aload_n X.1 X.2.1 dX1_findFairBar_105 rfl (lv_at hl 2 rfl) ?_
            refine x_get (C := RX1) (T := TX1) (N := 8) X hW (by omega) h0 rfl lk_0 4 (by decide) lk_3 rfl dX1_findFairBar_106 ?_
            refine lv_iload_n X.1 X.2.1 dX1_findFairBar_109 rfl (lv_at hl 3 rfl) ?_
            refine lv_iload X.1 X.2.1 dX1_findFairBar_110 (lv_at hl 0 rfl) ?_
            refine x_iast X hW (by omega) h13 k (by omega) (by omega) (by decide) dX1_findFairBar_112 (fun g_112 H locs hg_112 hW => ?_)
            have h0 : g_112 i = .inr (1, [.ref (A (i + 1)), .ref (A (i + 6)), .ref (A (i + 11)), .ref (A (i + 12)), .ref (A (i + 13)), .ref (A (i + 14)), .ref (A (i + 15)), .ref (A (i + 17))]) := by rw [hg_112, va_up_ne _ _ (by omega)]; exact h0
            have h12 : g_112 (i + 12) = aI E 6 (upd f2 k (iI ((((bGath L ((x : Nat) : Int) : Nat) : Int)) - (((px0 * bE L (fun _ => 1) : Nat) : Int))))) := by rw [hg_112, va_up_ne _ _ (by omega)]; exact h12
            have hbo : g_112 (bc k) = .inr (0, [.ref (A (bc k + 1)), .ref (A (bc k + 2)), .int (iI ((bz0 : Int))), .int (iI ((tot0 : Int)))]) := by rw [hg_112, va_up_ne _ _ (by omega)]; exact hbo
            have h13 : g_112 (i + 13) = aI E 6 (upd b2 k (iI (((bGe L x : Nat) : Int)))) := by rw [hg_112]; exact va_up_self _ _ _
            have hbv : BookV E A g_112 (bc k) L := hbv.frame (by rw [hg_112, va_up_ne _ _ (by omega)]) (by rw [hg_112, va_up_ne _ _ (by omega)]) (by rw [hg_112, va_up_ne _ _ (by omega)])
            have hfr : ∀ j, (j ≠ i + 12 ∧ j ≠ i + 13) → g_112 j = g j := fun j hj => (show g_112 j = g_104 j by rw [hg_112, va_up_ne _ _ (by omega)]).trans (hfr j hj)
            refine lv_aload_n X.1 X.2.1 dX1_findFairBar_113 rfl (lv_at hl 4 rfl) ?_
            refine lv_iload X.1 X.2.1 dX1_findFairBar_114 (lv_at hl 6 rfl) ?_
            refine x_iconst X dX1_findFairBar_116 ?_
            refine x_iadd X dX1_findFairBar_117 ?_
            refine x_ci (x_runV (k := 1) (As := [.int (iI (z + 1))]) (rest := []) X hW (c_X0_leastFrom l E A n _ g_112 (bc k) L (z + 1) hbn hbv ⟨by omega, by omega⟩) (by omega) hbo rfl gX1_findFairBar_X0_leastFrom rfl rfl rfl (by decide +kernel) ⟨by decide, by decide⟩ rfl hl.1 rfl (Nat.le_of_ble_eq_true rfl) dX1_findFairBar_118 ⟨Nat.zero_le _, Nat.zero_le _⟩) hW (fun r_118 g_118 H locs hp_118 hW => ?_)
            obtain ⟨⟨z_118, hz_118, hL_118⟩, he_118⟩ := hp_118
            rw [he_118] at hW
            subst hz_118
            have hzr_118 := LF_rng hL_118
            refine lv_istore (lv' := [(4, .int (iI (z_118))), (7, .int (iI (((bGe L x : Nat) : Int)))), (6, .int (iI ((((bGath L ((x : Nat) : Int) : Nat) : Int)) - (((px0 * bE L (fun _ => 1) : Nat) : Int))))), (0, .ref (A (i))), (1, .int (iI ((k : Int)))), (2, .ref (A (bc k))), (3, .int (iI (((px0 * bE L (fun _ => 1) : Nat) : Int)))), (5, .int (iI (((c : Nat) : Int))))]) X.1 X.2.1 dX1_findFairBar_121 hl (by decide) rfl (fun ls hl => ?_)
            refine lv_iinc (v := iI (((c + 1 : Nat) : Int))) (lv' := [(5, .int (iI (((c + 1 : Nat) : Int)))), (4, .int (iI (z_118))), (7, .int (iI (((bGe L x : Nat) : Int)))), (6, .int (iI ((((bGath L ((x : Nat) : Int) : Nat) : Int)) - (((px0 * bE L (fun _ => 1) : Nat) : Int))))), (0, .ref (A (i))), (1, .int (iI ((k : Int)))), (2, .ref (A (bc k))), (3, .int (iI (((px0 * bE L (fun _ => 1) : Nat) : Int))))]) X.1 X.2.1 dX1_findFairBar_123 hl (k := 7) rfl (by rw [show (Int32.ofInt (1)) = iI (1) from rfl, iI_add]; rfl) (by decide) rfl (fun ls hl => ?_)
            refine lv_goto (tgt := 38) X.1 X.2.1 dX1_findFairBar_126 (by decide) ?_
            exact ih_38 (c + 1) z_118 (x + 1) (((bGath L ((x : Nat) : Int) : Nat) : Int) - ((px0 * bE L (fun _ => 1) : Nat) : Int)) (bGe L x) _ _ g_112 _ _ _ (by have h6 := lv1_le hbvg (x + 1); have h7 := lv1_step hm9 hnx2; omega) (Nat.le_trans (Nat.succ_le_succ hc) (lv1_step hm9 hnx2)) (by rw [show ((x + 1 : Nat) : Int) = z + 1 from by omega]; exact hL_118) (by omega) (FB_take hFB hnx2 hfl hm9 htk) ⟨fun _ => ⟨by omega, by omega⟩, by omega⟩ h12 h13 upd_s upd_s (fun j hj => by rw [upd_n hj, upd_n hj]; exact ho j hj) hfr hW (lv_sub hl [4, 5, 6, 7, 1, 0] rfl)
          · refine lv_aload_n X.1 X.2.1 dX1_findFairBar_83 rfl (lv_at hl 2 rfl) ?_
            refine lv_iload X.1 X.2.1 dX1_findFairBar_84 (lv_at hl 1 rfl) ?_
            refine x_i2l X ⟨by omega, by omega⟩ dX1_findFairBar_86 ?_
            refine lv_iload X.1 X.2.1 dX1_findFairBar_87 (lv_at hl 0 rfl) ?_
            refine x_i2l X ⟨by omega, by omega⟩ dX1_findFairBar_89 ?_
            refine lv_iload_n X.1 X.2.1 dX1_findFairBar_90 rfl (lv_at hl 3 rfl) ?_
            refine x_ci (x_runV (k := 3) (As := [.long (lI ((((bGath L ((x : Nat) : Int) : Nat) : Int)) - (((px0 * bE L (fun _ => 1) : Nat) : Int)))), .long (lI (((bGe L x : Nat) : Int))), .int (iI ((k : Int)))]) (rest := []) X hW (c_X1_isAbove l E A n _ gw i k f2 b2 (((bGath L ((x : Nat) : Int) : Nat) : Int) - ((px0 * bE L (fun _ => 1) : Nat) : Int)) P (bGe L x) Q hi h0 h12 h13 (by omega) hP hQ (by omega) (by omega) (by omega) (hPr.1 (by omega)).1 (hPr.1 (by omega)).2 hPr.2) (by omega) h0 rfl gX1_findFairBar_X1_isAbove rfl rfl rfl (by decide +kernel) ⟨by decide, by decide⟩ rfl hl.1 rfl (Nat.le_of_ble_eq_true rfl) dX1_findFairBar_91 ⟨Nat.zero_le _, Nat.zero_le _⟩) hW (fun r_91 g_91 H locs hp_91 hW => ?_)
            obtain ⟨hr_91, he_91⟩ := hp_91
            rw [he_91] at hW
            subst hr_91
            refine x_if_eq (tgt := 113) X ⟨by split <;> decide, by split <;> decide⟩ dX1_findFairBar_94 (by decide) (fun b_94 => ?_) (fun b_94 => ?_)
            · have hnt : ¬ P * (bGe L x : Nat) < ((bGath L (x : Int) : Nat) - ((px0 * bE L (fun _ => 1) : Nat) : Int)) * (Q : Int) := fun h => by rw [if_pos h] at b_94; omega
              refine lv_aload_n X.1 X.2.1 dX1_findFairBar_113 rfl (lv_at hl 4 rfl) ?_
              refine lv_iload X.1 X.2.1 dX1_findFairBar_114 (lv_at hl 6 rfl) ?_
              refine x_iconst X dX1_findFairBar_116 ?_
              refine x_iadd X dX1_findFairBar_117 ?_
              refine x_ci (x_runV (k := 1) (As := [.int (iI (z + 1))]) (rest := []) X hW (c_X0_leastFrom l E A n _ gw (bc k) L (z + 1) hbn hbv ⟨by omega, by omega⟩) (by omega) hbo rfl gX1_findFairBar_X0_leastFrom rfl rfl rfl (by decide +kernel) ⟨by decide, by decide⟩ rfl hl.1 rfl (Nat.le_of_ble_eq_true rfl) dX1_findFairBar_118 ⟨Nat.zero_le _, Nat.zero_le _⟩) hW (fun r_118 g_118 H locs hp_118 hW => ?_)
              obtain ⟨⟨z_118, hz_118, hL_118⟩, he_118⟩ := hp_118
              rw [he_118] at hW
              subst hz_118
              have hzr_118 := LF_rng hL_118
              refine lv_istore (lv' := [(4, .int (iI (z_118))), (7, .int (iI (((bGe L x : Nat) : Int)))), (6, .int (iI ((((bGath L ((x : Nat) : Int) : Nat) : Int)) - (((px0 * bE L (fun _ => 1) : Nat) : Int))))), (0, .ref (A (i))), (1, .int (iI ((k : Int)))), (2, .ref (A (bc k))), (3, .int (iI (((px0 * bE L (fun _ => 1) : Nat) : Int)))), (5, .int (iI (((c : Nat) : Int))))]) X.1 X.2.1 dX1_findFairBar_121 hl (by decide) rfl (fun ls hl => ?_)
              refine lv_iinc (v := iI (((c + 1 : Nat) : Int))) (lv' := [(5, .int (iI (((c + 1 : Nat) : Int)))), (4, .int (iI (z_118))), (7, .int (iI (((bGe L x : Nat) : Int)))), (6, .int (iI ((((bGath L ((x : Nat) : Int) : Nat) : Int)) - (((px0 * bE L (fun _ => 1) : Nat) : Int))))), (0, .ref (A (i))), (1, .int (iI ((k : Int)))), (2, .ref (A (bc k))), (3, .int (iI (((px0 * bE L (fun _ => 1) : Nat) : Int))))]) X.1 X.2.1 dX1_findFairBar_123 hl (k := 7) rfl (by rw [show (Int32.ofInt (1)) = iI (1) from rfl, iI_add]; rfl) (by decide) rfl (fun ls hl => ?_)
              refine lv_goto (tgt := 38) X.1 X.2.1 dX1_findFairBar_126 (by decide) ?_
              exact ih_38 (c + 1) z_118 (x + 1) P Q f2 b2 gw _ _ _ (by have h6 := lv1_le hbvg (x + 1); have h7 := lv1_step hm9 hnx2; omega) (Nat.le_trans (Nat.succ_le_succ hc) (lv1_step hm9 hnx2)) (by rw [show ((x + 1 : Nat) : Int) = z + 1 from by omega]; exact hL_118) (by omega) (FB_keep hFB hnx2 hfl (by omega) hnt) hPr h12 h13 hP hQ ho hfr hW (lv_sub hl [4, 5, 6, 7, 1, 0] rfl)
            · have htk : Q = 0 ∨ P * (bGe L x : Nat) < ((bGath L (x : Int) : Nat) - ((px0 * bE L (fun _ => 1) : Nat) : Int)) * (Q : Int) := Or.inr (Decidable.byContradiction (fun h => b_94 (if_neg h)))
              refine lv_aload_n X.1 X.2.1 dX1_findFairBar_97 rfl (lv_at hl 2 rfl) ?_
              refine x_get (C := RX1) (T := TX1) (N := 8) X hW (by omega) h0 rfl lk_0 3 (by decide) lk_4 rfl dX1_findFairBar_98 ?_
              refine lv_iload_n X.1 X.2.1 dX1_findFairBar_101 rfl (lv_at hl 3 rfl) ?_
              refine lv_iload X.1 X.2.1 dX1_findFairBar_102 (lv_at hl 1 rfl) ?_
              refine x_iast X hW (by omega) h12 k (by omega) (by omega) (by decide) dX1_findFairBar_104 (fun g_104 H locs hg_104 hW => ?_)
              have h0 : g_104 i = .inr (1, [.ref (A (i + 1)), .ref (A (i + 6)), .ref (A (i + 11)), .ref (A (i + 12)), .ref (A (i + 13)), .ref (A (i + 14)), .ref (A (i + 15)), .ref (A (i + 17))]) := by rw [hg_104, va_up_ne _ _ (by omega)]; exact h0
              have h13 : g_104 (i + 13) = aI E 6 b2 := by rw [hg_104, va_up_ne _ _ (by omega)]; exact h13
              have hbo : g_104 (bc k) = .inr (0, [.ref (A (bc k + 1)), .ref (A (bc k + 2)), .int (iI ((bz0 : Int))), .int (iI ((tot0 : Int)))]) := by rw [hg_104, va_up_ne _ _ (by omega)]; exact hbo
              have h12 : g_104 (i + 12) = aI E 6 (upd f2 k (iI ((((bGath L ((x : Nat) : Int) : Nat) : Int)) - (((px0 * bE L (fun _ => 1) : Nat) : Int))))) := by rw [hg_104]; exact va_up_self _ _ _
              have hbv : BookV E A g_104 (bc k) L := hbv.frame (by rw [hg_104, va_up_ne _ _ (by omega)]) (by rw [hg_104, va_up_ne _ _ (by omega)]) (by rw [hg_104, va_up_ne _ _ (by omega)])
              have hfr : ∀ j, (j ≠ i + 12 ∧ j ≠ i + 13) → g_104 j = g j := fun j hj => (show g_104 j = gw j by rw [hg_104, va_up_ne _ _ (by omega)]).trans (hfr j hj)
              refine lv_aload_n X.1 X.2.1 dX1_findFairBar_105 rfl (lv_at hl 2 rfl) ?_
              refine x_get (C := RX1) (T := TX1) (N := 8) X hW (by omega) h0 rfl lk_0 4 (by decide) lk_3 rfl dX1_findFairBar_106 ?_
              refine lv_iload_n X.1 X.2.1 dX1_findFairBar_109 rfl (lv_at hl 3 rfl) ?_
              refine lv_iload X.1 X.2.1 dX1_findFairBar_110 (lv_at hl 0 rfl) ?_
              refine x_iast X hW (by omega) h13 k (by omega) (by omega) (by decide) dX1_findFairBar_112 (fun g_112 H locs hg_112 hW => ?_)
              have h0 : g_112 i = .inr (1, [.ref (A (i + 1)), .ref (A (i + 6)), .ref (A (i + 11)), .ref (A (i + 12)), .ref (A (i + 13)), .ref (A (i + 14)), .ref (A (i + 15)), .ref (A (i + 17))]) := by rw [hg_112, va_up_ne _ _ (by omega)]; exact h0
              have h12 : g_112 (i + 12) = aI E 6 (upd f2 k (iI ((((bGath L ((x : Nat) : Int) : Nat) : Int)) - (((px0 * bE L (fun _ => 1) : Nat) : Int))))) := by rw [hg_112, va_up_ne _ _ (by omega)]; exact h12
              have hbo : g_112 (bc k) = .inr (0, [.ref (A (bc k + 1)), .ref (A (bc k + 2)), .int (iI ((bz0 : Int))), .int (iI ((tot0 : Int)))]) := by rw [hg_112, va_up_ne _ _ (by omega)]; exact hbo
              have h13 : g_112 (i + 13) = aI E 6 (upd b2 k (iI (((bGe L x : Nat) : Int)))) := by rw [hg_112]; exact va_up_self _ _ _
              have hbv : BookV E A g_112 (bc k) L := hbv.frame (by rw [hg_112, va_up_ne _ _ (by omega)]) (by rw [hg_112, va_up_ne _ _ (by omega)]) (by rw [hg_112, va_up_ne _ _ (by omega)])
              have hfr : ∀ j, (j ≠ i + 12 ∧ j ≠ i + 13) → g_112 j = g j := fun j hj => (show g_112 j = g_104 j by rw [hg_112, va_up_ne _ _ (by omega)]).trans (hfr j hj)
              refine lv_aload_n X.1 X.2.1 dX1_findFairBar_113 rfl (lv_at hl 4 rfl) ?_
              refine lv_iload X.1 X.2.1 dX1_findFairBar_114 (lv_at hl 6 rfl) ?_
              refine x_iconst X dX1_findFairBar_116 ?_
              refine x_iadd X dX1_findFairBar_117 ?_
              refine x_ci (x_runV (k := 1) (As := [.int (iI (z + 1))]) (rest := []) X hW (c_X0_leastFrom l E A n _ g_112 (bc k) L (z + 1) hbn hbv ⟨by omega, by omega⟩) (by omega) hbo rfl gX1_findFairBar_X0_leastFrom rfl rfl rfl (by decide +kernel) ⟨by decide, by decide⟩ rfl hl.1 rfl (Nat.le_of_ble_eq_true rfl) dX1_findFairBar_118 ⟨Nat.zero_le _, Nat.zero_le _⟩) hW (fun r_118 g_118 H locs hp_118 hW => ?_)
              obtain ⟨⟨z_118, hz_118, hL_118⟩, he_118⟩ := hp_118
              rw [he_118] at hW
              subst hz_118
              have hzr_118 := LF_rng hL_118
              refine lv_istore (lv' := [(4, .int (iI (z_118))), (7, .int (iI (((bGe L x : Nat) : Int)))), (6, .int (iI ((((bGath L ((x : Nat) : Int) : Nat) : Int)) - (((px0 * bE L (fun _ => 1) : Nat) : Int))))), (0, .ref (A (i))), (1, .int (iI ((k : Int)))), (2, .ref (A (bc k))), (3, .int (iI (((px0 * bE L (fun _ => 1) : Nat) : Int)))), (5, .int (iI (((c : Nat) : Int))))]) X.1 X.2.1 dX1_findFairBar_121 hl (by decide) rfl (fun ls hl => ?_)
              refine lv_iinc (v := iI (((c + 1 : Nat) : Int))) (lv' := [(5, .int (iI (((c + 1 : Nat) : Int)))), (4, .int (iI (z_118))), (7, .int (iI (((bGe L x : Nat) : Int)))), (6, .int (iI ((((bGath L ((x : Nat) : Int) : Nat) : Int)) - (((px0 * bE L (fun _ => 1) : Nat) : Int))))), (0, .ref (A (i))), (1, .int (iI ((k : Int)))), (2, .ref (A (bc k))), (3, .int (iI (((px0 * bE L (fun _ => 1) : Nat) : Int))))]) X.1 X.2.1 dX1_findFairBar_123 hl (k := 7) rfl (by rw [show (Int32.ofInt (1)) = iI (1) from rfl, iI_add]; rfl) (by decide) rfl (fun ls hl => ?_)
              refine lv_goto (tgt := 38) X.1 X.2.1 dX1_findFairBar_126 (by decide) ?_
              exact ih_38 (c + 1) z_118 (x + 1) (((bGath L ((x : Nat) : Int) : Nat) : Int) - ((px0 * bE L (fun _ => 1) : Nat) : Int)) (bGe L x) _ _ g_112 _ _ _ (by have h6 := lv1_le hbvg (x + 1); have h7 := lv1_step hm9 hnx2; omega) (Nat.le_trans (Nat.succ_le_succ hc) (lv1_step hm9 hnx2)) (by rw [show ((x + 1 : Nat) : Int) = z + 1 from by omega]; exact hL_118) (by omega) (FB_take hFB hnx2 hfl hm9 htk) ⟨fun _ => ⟨by omega, by omega⟩, by omega⟩ h12 h13 upd_s upd_s (fun j hj => by rw [upd_n hj, upd_n hj]; exact ho j hj) hfr hW (lv_sub hl [4, 5, 6, 7, 1, 0] rfl)
  exact loop_38 _ 0 z_30 0 ((ft k).toInt) 0 ft _ g_27 _ _ _ (Nat.lt_succ_self _) (Nat.zero_le _) hL_30 (by omega) (Or.inl ⟨rfl, fun y hy => absurd hy (Nat.not_lt_zero _)⟩) ⟨fun h => absurd h (by omega), by omega⟩ h12 h13 (iI_of _) upd_s (fun j hj => ⟨rfl, upd_n hj⟩) hfr hW (lv_sub hl [4, 5, 3, 2, 1, 0] rfl)
