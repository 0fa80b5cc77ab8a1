/-! ===== Boxes: gains, search ===== -/
/-- what opening brings above s, all weights over: never below 0 -/
def gnV (L : List (Nat × Nat)) (px0 s : Nat) : Nat := (((bGath L ((s : Nat) : Int) : Nat) : Int) - ((s * bGe L s : Nat) : Int) - ((px0 * bE L (fun _ => 1) : Nat) : Int)).toNat
theorem gn_mono (L : List (Nat × Nat)) (px0 s : Nat) : gnV L px0 (s + 1) ≤ gnV L px0 s := by
  unfold gnV
  have e1 := ge_step L s
  have e2 := gath_step L s
  have e3 : s * bGe L s = s * bGe L (s + 1) + s * bMass L s := by rw [e1, Nat.mul_add]
  have e4 : (s + 1) * bGe L (s + 1) = s * bGe L (s + 1) + bGe L (s + 1) := by rw [Nat.add_mul, Nat.one_mul]
  omega
theorem gn_le2 (L : List (Nat × Nat)) (px0 : Nat) {s x : Nat} (h : s ≤ x) : gnV L px0 x ≤ gnV L px0 s := by
  induction x with
  | zero => rw [show s = 0 from by omega]; exact Nat.le_refl _
  | succ x ih =>
    by_cases e : s = x + 1
    · rw [e]; exact Nat.le_refl _
    · exact Nat.le_trans (gn_mono L px0 x) (ih (by omega))
theorem gn_cap {E : wE} {A : Nat → Nat} {g : Nat → va_E} {i : Nat} {L : List (Nat × Nat)} (h : BookV E A g i L) (px0 s : Nat) : gnV L px0 s ≤ 8000000 := by
  have := h.gle ((s : Nat) : Int)
  unfold gnV
  omega
def gS (Lo : Nat → List (Nat × Nat)) (oz : Nat) (gn : Nat → Nat) (T : Nat) : Nat := sm (fun t => prB Lo ((t + 1 : Nat) : Int) oz * (gn t - gn (t + 1))) T
theorem gS_flat {Lo : Nat → List (Nat × Nat)} {oz : Nat} {gn : Nat → Nat} (hg : ∀ t, gn (t + 1) ≤ gn t) {s : Nat} : ∀ x, s ≤ x → (∀ y, s + 1 ≤ y → y < x → ∀ k, k < oz → bMass (Lo k) y = 0) → gS Lo oz gn x = gS Lo oz gn s + prB Lo ((s + 1 : Nat) : Int) oz * (gn s - gn x) := by
  intro x
  induction x with
  | zero => intro h _; rw [show s = 0 from by omega, Nat.sub_self, Nat.mul_zero, Nat.add_zero]
  | succ x ih =>
    intro h hn
    by_cases e : s = x + 1
    · rw [e, Nat.sub_self, Nat.mul_zero]; exact (Nat.add_zero _).symm
    · show gS Lo oz gn x + prB Lo ((x + 1 : Nat) : Int) oz * (gn x - gn (x + 1)) = _
      have hm : ∀ a, gn (s + a) ≤ gn s := by
        intro a
        induction a with
        | zero => exact Nat.le_refl _
        | succ a iha => exact Nat.le_trans (hg _) iha
      have h1 := hm (x - s)
      rw [show s + (x - s) = x from by omega] at h1
      have h2 := hg x
      rw [ih (by omega) (fun y a b => hn y a (by omega)), prB_flat (a := s + 1) (b := x + 1) (fun y a b k hk => hn y a b k hk) (by omega), Nat.add_assoc, ← Nat.mul_add]
      congr 2
      omega
theorem gS_end {Lo : Nat → List (Nat × Nat)} {oz : Nat} {gn : Nat → Nat} (hg : ∀ t, gn (t + 1) ≤ gn t) {s : Nat} (h0 : gn s = 0) : ∀ d, gS Lo oz gn (s + d) = gS Lo oz gn s := by
  have hz : ∀ a, gn (s + a) = 0 := by
    intro a
    induction a with
    | zero => exact h0
    | succ a ih => have := hg (s + a); show gn (s + a + 1) = 0; omega
  intro d
  induction d with
  | zero => rfl
  | succ d ih =>
    show gS Lo oz gn (s + d) + prB Lo ((s + d + 1 : Nat) : Int) oz * (gn (s + d) - gn (s + d + 1)) = _
    rw [ih, hz d, Nat.zero_sub, Nat.mul_zero, Nat.add_zero]
theorem gS_le {Lo : Nat → List (Nat × Nat)} {oz : Nat} {gn : Nat → Nat} (hg : ∀ t, gn (t + 1) ≤ gn t) : ∀ T, gS Lo oz gn T + prT Lo oz * gn T ≤ prT Lo oz * gn 0 := by
  intro T
  induction T with
  | zero => show 0 + _ ≤ _; rw [Nat.zero_add]; exact Nat.le_refl _
  | succ T ih =>
    show gS Lo oz gn T + prB Lo ((T + 1 : Nat) : Int) oz * (gn T - gn (T + 1)) + prT Lo oz * gn (T + 1) ≤ _
    have h1 : prB Lo ((T + 1 : Nat) : Int) oz * (gn T - gn (T + 1)) ≤ prT Lo oz * (gn T - gn (T + 1)) := Nat.mul_le_mul_right _ (prB_le _ _ _)
    have h2 : prT Lo oz * (gn T - gn (T + 1)) + prT Lo oz * gn (T + 1) = prT Lo oz * gn T := by
      rw [← Nat.mul_add]; congr 1; have := hg T; omega
    omega
theorem gn_top {E : wE} {A : Nat → Nat} {g : Nat → va_E} {i : Nat} {L : List (Nat × Nat)} (h : BookV E A g i L) (px0 : Nat) : gnV L px0 1001 = 0 := by
  obtain ⟨bz, wo, we, tot, hc, hp⟩ := h
  have hz : ∀ y, 1001 ≤ y → bMass L y = 0 := fun y hy => mass_no hp (fun k hk => by have := (hp.2.1 k hk).2; omega)
  have e1 := below_all hz
  have e2 := ge_tot L 1001
  have e3 := ge0_gath (show bGe L 1001 = 0 by omega)
  unfold gnV
  rw [e3]
  omega

set_option maxHeartbeats 4000000 in
set_option maxRecDepth 100000 in
/-- gainAbove -/
theorem c_X1_gainAbove (l : Launch) (E : wE) (A : Nat → Nat) (n sz : Nat) (g : Nat → va_E) (i xz k : Nat) (bc : Nat → Nat) (L : List (Nat × Nat)) (px0 : Nat) (fp : Nat → Int32) (s : Nat) (hi : i + 18 < n) (h0 : g i = .inr (1, [.ref (A (i + 1)), .ref (A (i + 6)), .ref (A (i + 11)), .ref (A (i + 12)), .ref (A (i + 13)), .ref (A (i + 14)), .ref (A (i + 15)), .ref (A (i + 17))])) (hC : CrowdV E A g (i + 1) xz bc) (hk : k < xz) (hx6 : xz ≤ 6) (hbn : bc k + 2 < n) (hbv : BookV E A g (bc k) L) (h11 : g (i + 11) = aI E 6 fp) (hfp : fp k = iI ((px0 : Nat) : Int)) (hp0 : px0 ≤ 1000) (hs : s ≤ 1001) : Met l yX1_gainAbove wsX1_gainAbove ({ frames := 3, cells := 0, slots := 0, locals := 100 } : Room) (va_Pc [.ref (A (i)), .int (iI ((s : Int))), .int (iI ((k : Int)))] (wPre E A n sz g)) (va_Qi (fun r g' => r = iI ((gnV L px0 s : Nat) : Int) ∧ g' = g) (wAt E A n) (wF A n sz)) 0 0 (wF A n sz) := by
  refine x_met (cc := cX1_gainAbove) (maxL := 5) (ret := (some .int)) [.ref (A (i)), .int (iI ((s : Int))), .int (iI ((k : Int)))] (by decide) rfl (Nat.le_of_ble_eq_true rfl) ?_
  intro p_ e_ s_ m_ below meth c_ ls X hr hlk hnm hsz hW hl
  have hl : lv_has ls 5 [(0, .ref (A (i))), (1, .int (iI ((s : Int)))), (2, .int (iI ((k : Int))))] := hl
  have lk_0 : ∀ w ∈ wsX10, w ∈ wsX1_gainAbove := by decide +kernel
  have lk_1 : Cond.fieldLink RX1 12 (TX1 0).1 (TX1 0).2.1 (TX1 0).2.2.1 ∈ wsX1_gainAbove := by decide +kernel
  have lk_2 : Cond.fieldLink RX1 21 (TX1 2).1 (TX1 2).2.1 (TX1 2).2.2.1 ∈ wsX1_gainAbove := by decide +kernel
  have lk_3 : Cond.methodLink RX1 129 Lib.Math.max.name ∈ wsX1_gainAbove := by decide +kernel
  have lk_4 : Cond.static Lib.Math.max.name ∈ wsX1_gainAbove := by decide +kernel
  have lk_5 : Cond.initialized "java/lang/Math" ∈ wsX1_gainAbove := by decide +kernel
  have lk_6 : Cond.code Lib.Math.max.name Lib.Math.max.code 2 (some .int) ∈ wsX1_gainAbove := by decide +kernel
  have hc0 := hC.1
  obtain ⟨bz0, wo0, we0, tot0, hbc0, hbp0⟩ := id hbv
  have hbo := hbc0.1
  have ht8 := hbv.tot
  have hgl := hbv.gle ((s : Nat) : Int)
  have hgt := ge_tot L s
  have hsg : s * bGe L s ≤ 1001 * 8000 := Nat.mul_le_mul hs (by omega)
  have hco : px0 * bE L (fun _ => 1) ≤ 1000 * 8000 := Nat.mul_le_mul hp0 ht8
  refine lv_aload_n X.1 X.2.1 dX1_gainAbove_0 rfl (lv_at hl 0 rfl) ?_
  refine x_get (C := RX1) (T := TX1) (N := 8) X hW (by omega) h0 rfl lk_0 0 (by decide) lk_1 rfl dX1_gainAbove_1 ?_
  refine lv_iload_n X.1 X.2.1 dX1_gainAbove_4 rfl (lv_at hl 2 rfl) ?_
  refine x_cr (x_runV (k := 1) (As := [.int (iI ((k : Int)))]) (rest := []) X hW (c_X3_at l E A n _ g (i + 1) xz bc k (by omega) hC hk) (by omega) hc0 rfl gX1_gainAbove_X3_at rfl rfl rfl (by decide +kernel) ⟨by decide, by decide⟩ rfl hl.1 rfl (Nat.le_of_ble_eq_true rfl) dX1_gainAbove_5 ⟨Nat.zero_le _, Nat.zero_le _⟩) hW (fun j_5 g_5 H locs hp_5 hW => ?_)
  have hj_5 : j_5 = bc k := hp_5.1
  have he_5 : g_5 = g := hp_5.2
  rw [he_5] at hW
  subst hj_5
  refine lv_astore_n (lv' := [(3, .ref (A (bc k))), (0, .ref (A (i))), (1, .int (iI ((s : Int)))), (2, .int (iI ((k : Int))))]) X.1 X.2.1 dX1_gainAbove_8 rfl hl (by decide) rfl (fun ls hl => ?_)
  refine lv_aload_n X.1 X.2.1 dX1_gainAbove_9 rfl (lv_at hl 0 rfl) ?_
  refine x_ci (x_runV (k := 0) (As := []) (rest := []) X hW (c_X0_total l E A n _ g (bc k) L hbn hbv) (by omega) hbo rfl gX1_gainAbove_X0_total rfl rfl rfl (by decide +kernel) ⟨by decide, by decide⟩ rfl hl.1 rfl (Nat.le_of_ble_eq_true rfl) dX1_gainAbove_10 ⟨Nat.zero_le _, Nat.zero_le _⟩) hW (fun r_10 g_10 H locs hp_10 hW => ?_)
  obtain ⟨hr_10, he_10⟩ := hp_10
  rw [he_10] at hW
  subst hr_10
  refine lv_aload_n X.1 X.2.1 dX1_gainAbove_13 rfl (lv_at hl 0 rfl) ?_
  refine lv_iload_n X.1 X.2.1 dX1_gainAbove_14 rfl (lv_at hl 2 rfl) ?_
  refine x_ci (x_runV (k := 1) (As := [.int (iI ((s : Int)))]) (rest := [.int (iI (((bE L (fun _ => 1) : Nat) : Int)))]) X hW (c_X0_below l E A n _ g (bc k) L ((s : Nat) : Int) hbn hbv ⟨by omega, by omega⟩) (by omega) hbo rfl gX1_gainAbove_X0_below rfl rfl rfl (by decide +kernel) ⟨by decide, by decide⟩ rfl hl.1 rfl (Nat.le_of_ble_eq_true rfl) dX1_gainAbove_15 ⟨Nat.zero_le _, Nat.zero_le _⟩) hW (fun r_15 g_15 H locs hp_15 hW => ?_)
  obtain ⟨hr_15, he_15⟩ := hp_15
  rw [he_15] at hW
  subst hr_15
  refine x_isub X dX1_gainAbove_18 ?_
  refine x_seti (((bGe L s : Nat) : Int)) (by omega) ?_
  refine lv_istore (lv' := [(4, .int (iI (((bGe L s : Nat) : Int)))), (3, .ref (A (bc k))), (0, .ref (A (i))), (1, .int (iI ((s : Int)))), (2, .int (iI ((k : Int))))]) X.1 X.2.1 dX1_gainAbove_19 hl (by decide) rfl (fun ls hl => ?_)
  refine x_iconst X dX1_gainAbove_21 ?_
  refine lv_aload_n X.1 X.2.1 dX1_gainAbove_22 rfl (lv_at hl 1 rfl) ?_
  refine lv_iload_n X.1 X.2.1 dX1_gainAbove_23 rfl (lv_at hl 3 rfl) ?_
  refine x_ci (x_runV (k := 1) (As := [.int (iI ((s : Int)))]) (rest := [.int (iI (0))]) X hW (c_X0_gathered l E A n _ g (bc k) L ((s : Nat) : Int) hbn hbv ⟨by omega, by omega⟩) (by omega) hbo rfl gX1_gainAbove_X0_gathered rfl rfl rfl (by decide +kernel) ⟨by decide, by decide⟩ rfl hl.1 rfl (Nat.le_of_ble_eq_true rfl) dX1_gainAbove_24 ⟨Nat.zero_le _, Nat.zero_le _⟩) hW (fun r_24 g_24 H locs hp_24 hW => ?_)
  obtain ⟨hr_24, he_24⟩ := hp_24
  rw [he_24] at hW
  subst hr_24
  refine lv_iload_n X.1 X.2.1 dX1_gainAbove_27 rfl (lv_at hl 3 rfl) ?_
  refine lv_iload X.1 X.2.1 dX1_gainAbove_28 (lv_at hl 0 rfl) ?_
  refine x_imul X dX1_gainAbove_30 ?_
  refine x_seti (((s * bGe L s : Nat) : Int)) ((Int.natCast_mul _ _).symm) ?_
  refine x_isub X dX1_gainAbove_31 ?_
  refine lv_aload_n X.1 X.2.1 dX1_gainAbove_32 rfl (lv_at hl 2 rfl) ?_
  refine x_get (C := RX1) (T := TX1) (N := 8) X hW (by omega) h0 rfl lk_0 2 (by decide) lk_2 rfl dX1_gainAbove_33 ?_
  refine lv_iload_n X.1 X.2.1 dX1_gainAbove_36 rfl (lv_at hl 4 rfl) ?_
  refine x_iald X hW (by omega) h11 (v := iI (((px0 : Nat) : Int))) k (by omega) (by omega) (by decide) hfp dX1_gainAbove_37 ?_
  refine lv_aload_n X.1 X.2.1 dX1_gainAbove_38 rfl (lv_at hl 1 rfl) ?_
  refine x_ci (x_runV (k := 0) (As := []) (rest := [.int (iI (((px0 : Nat) : Int))), .int (iI ((((bGath L ((s : Nat) : Int) : Nat) : Int)) - (((s * bGe L s : Nat) : Int)))), .int (iI (0))]) X hW (c_X0_total l E A n _ g (bc k) L hbn hbv) (by omega) hbo rfl gX1_gainAbove_X0_total rfl rfl rfl (by decide +kernel) ⟨by decide, by decide⟩ rfl hl.1 rfl (Nat.le_of_ble_eq_true rfl) dX1_gainAbove_39 ⟨Nat.zero_le _, Nat.zero_le _⟩) hW (fun r_39 g_39 H locs hp_39 hW => ?_)
  obtain ⟨hr_39, he_39⟩ := hp_39
  rw [he_39] at hW
  subst hr_39
  refine x_imul X dX1_gainAbove_42 ?_
  refine x_seti (((px0 * bE L (fun _ => 1) : Nat) : Int)) ((Int.natCast_mul _ _).symm) ?_
  refine x_isub X dX1_gainAbove_43 ?_
  refine x_mmaxi X hl.1 ⟨by decide, by decide⟩ ⟨by omega, by omega⟩ lk_3 lk_4 lk_5 lk_6 (by decide) (Nat.le_of_ble_eq_true rfl) (Nat.zero_le _) (Nat.zero_le _) dX1_gainAbove_44 ?_
  refine x_seti (((gnV L px0 s : Nat) : Int)) (by unfold gnV; split <;> omega) ?_
  exact x_iret X hr hlk hW (⟨rfl, rfl⟩) dX1_gainAbove_47

def AGs (L : List (Nat × Nat)) (px0 sv : Nat) (Lo : Nat → List (Nat × Nat)) (oz : Nat) (z : Int) (gz av c : Nat) : Prop := (gz = 0 ∧ av = sv + gS Lo oz (gnV L px0) 1001) ∨ ∃ s : Nat, z = (s : Int) ∧ s ≤ 1000 ∧ gz = gnV L px0 s ∧ av = sv + gS Lo oz (gnV L px0) s ∧ c ≤ lvC Lo oz (s + 1)
theorem AGs.or {L : List (Nat × Nat)} {px0 sv : Nat} {Lo : Nat → List (Nat × Nat)} {oz : Nat} {z : Int} {gz av c : Nat} (h : AGs L px0 sv Lo oz z gz av c) : (gz = 0 ∧ av = sv + gS Lo oz (gnV L px0) 1001) ∨ ∃ s : Nat, z = (s : Int) ∧ s ≤ 1000 ∧ gz = gnV L px0 s ∧ av = sv + gS Lo oz (gnV L px0) s ∧ c ≤ lvC Lo oz (s + 1) := h

set_option maxHeartbeats 4000000 in
set_option maxRecDepth 100000 in
/-- addGains -/
theorem c_X1_addGains (l : Launch) (E : wE) (A : Nat → Nat) (n sz : Nat) (g : Nat → va_E) (i xz k : Nat) (bc : Nat → Nat) (L : List (Nat × Nat)) (px0 : Nat) (fp : Nat → Int32) (oz : Nat) (ob : Nat → Nat) (Lo : Nat → List (Nat × Nat)) (sv : Nat) (hi : i + 18 < n) (h0 : g i = .inr (1, [.ref (A (i + 1)), .ref (A (i + 6)), .ref (A (i + 11)), .ref (A (i + 12)), .ref (A (i + 13)), .ref (A (i + 14)), .ref (A (i + 15)), .ref (A (i + 17))])) (hC : CrowdV E A g (i + 1) xz bc) (hk : k < xz) (hx6 : xz ≤ 6) (hbn : bc k + 2 < n) (hbv : BookV E A g (bc k) L) (h11 : g (i + 11) = aI E 6 fp) (hfp : fp k = iI ((px0 : Nat) : Int)) (hp0 : px0 ≤ 1000) (hdk : i + 18 < bc k ∨ bc k + 2 < i) (hCo : CrowdV E A g (i + 6) oz ob) (hBo : BksV E A g n oz ob Lo) (hdo : ∀ k, k < oz → i + 18 < ob k ∨ ob k + 2 < i) (n_i___15 : NatV E A g (i + 15) sv) (n_i___17 : NatX E A g (i + 17)) (hcap : sv + prT Lo oz * 8000000 < 10 ^ 54) : Met l yX1_addGains wsX1_addGains ({ frames := 5, cells := 0, slots := 0, locals := 180 } : Room) (va_Pc [.ref (A (i)), .int (iI ((k : Int)))] (wPre E A n sz g)) (va_Qv (fun g' => NatV E A g' (i + 15) (sv + gS Lo oz (gnV L px0) 1001) ∧ NatX E A g' (i + 17) ∧ ∀ j, (j ≠ i + 16 ∧ j ≠ i + 18) → g' j = g j) (wAt E A n) (wF A n sz)) 0 0 (wF A n sz) := by
  refine x_met (cc := cX1_addGains) (maxL := 7) (ret := none) [.ref (A (i)), .int (iI ((k : Int)))] (by decide) rfl (Nat.le_of_ble_eq_true rfl) ?_
  intro p_ e_ s_ m_ below meth c_ ls X hr hlk hnm hsz hW hl
  have hl : lv_has ls 7 [(0, .ref (A (i))), (1, .int (iI ((k : Int))))] := hl
  have lk_0 : ∀ w ∈ wsX10, w ∈ wsX1_addGains := by decide +kernel
  have lk_1 : Cond.fieldLink RX1 18 (TX1 1).1 (TX1 1).2.1 (TX1 1).2.2.1 ∈ wsX1_addGains := by decide +kernel
  have lk_2 : Cond.fieldLink RX1 41 (TX1 7).1 (TX1 7).2.1 (TX1 7).2.2.1 ∈ wsX1_addGains := by decide +kernel
  have lk_3 : Cond.fieldLink RX1 37 (TX1 6).1 (TX1 6).2.1 (TX1 6).2.2.1 ∈ wsX1_addGains := by decide +kernel
  have hCg := hC
  have hCog := hCo
  have hBog := hBo
  have hbvg := hbv
  have h0g := h0
  have h11g := h11
  have hc6 := hCo.1
  have hz10 : oz ≤ 10 := hCo.2.1
  have hfr : ∀ j, (j ≠ i + 16 ∧ j ≠ i + 18) → g j = g j := fun _ _ => rfl
  have hgn0 := gn_cap hbv px0 0
  have hp8 : prT Lo oz * gnV L px0 0 ≤ prT Lo oz * 8000000 := Nat.mul_le_mul_left _ hgn0
  refine x_iconst X dX1_addGains_0 ?_
  refine x_seti (((0 : Nat) : Int)) rfl ?_
  refine lv_istore_n (lv' := [(2, .int (iI (((0 : Nat) : Int)))), (0, .ref (A (i))), (1, .int (iI ((k : Int))))]) X.1 X.2.1 dX1_addGains_1 rfl hl (by decide) rfl (fun ls hl => ?_)
  refine lv_aload_n X.1 X.2.1 dX1_addGains_2 rfl (lv_at hl 1 rfl) ?_
  refine lv_iload_n X.1 X.2.1 dX1_addGains_3 rfl (lv_at hl 0 rfl) ?_
  refine lv_iload_n X.1 X.2.1 dX1_addGains_4 rfl (lv_at hl 2 rfl) ?_
  refine x_ci (x_runV (k := 2) (As := [.int (iI (((0 : Nat) : Int))), .int (iI ((k : Int)))]) (rest := []) X hW (c_X1_gainAbove l E A n _ g i xz k bc L px0 fp (0) hi h0 hC hk hx6 hbn hbv h11 hfp hp0 (by omega)) (by omega) h0 rfl gX1_addGains_X1_gainAbove rfl rfl rfl (by decide +kernel) ⟨by decide, by decide⟩ rfl hl.1 rfl (Nat.le_of_ble_eq_true rfl) dX1_addGains_5 ⟨Nat.zero_le _, Nat.zero_le _⟩) hW (fun r_5 g_5 H locs hp_5 hW => ?_)
  obtain ⟨hr_5, he_5⟩ := hp_5
  rw [he_5] at hW
  subst hr_5
  refine lv_istore_n (lv' := [(3, .int (iI (((gnV L px0 0 : Nat) : Int)))), (2, .int (iI (((0 : Nat) : Int)))), (0, .ref (A (i))), (1, .int (iI ((k : Int))))]) X.1 X.2.1 dX1_addGains_8 rfl hl (by decide) rfl (fun ls hl => ?_)
  refine x_iconst X dX1_addGains_9 ?_
  refine x_seti (((0 : Nat) : Int)) rfl ?_
  refine lv_istore (lv' := [(4, .int (iI (((0 : Nat) : Int)))), (3, .int (iI (((gnV L px0 0 : Nat) : Int)))), (2, .int (iI (((0 : Nat) : Int)))), (0, .ref (A (i))), (1, .int (iI ((k : Int))))]) X.1 X.2.1 dX1_addGains_10 hl (by decide) rfl (fun ls hl => ?_)
  have loop_12 : ∀ (fuel : Nat) (c : Nat) (z : Int) (gz : Nat) (av : Nat) (gw : Nat → va_E) (H : Heap) (locs : List Loc) (ls : Array Slot), (82 - c) < fuel → (c ≤ 81) → (gz ≤ 8000000) → (-1 ≤ z ∧ z ≤ 1000) → (AGs L px0 sv Lo oz z gz av c) → (NatV E A gw (i + 15) av) → (NatX E A gw (i + 17)) → (∀ j, (j ≠ i + 16 ∧ j ≠ i + 18) → gw j = g j) → wH E (wF A n sz) A n s_ gw H locs → lv_has ls 7 [(0, .ref (A (i))), (1, .int (iI ((k : Int)))), (2, .int (iI (z))), (3, .int (iI (((gz : Nat) : Int)))), (4, .int (iI (((c : Nat) : Int))))] → W p_ l e_ ({ frames := 5, cells := 0, slots := 0, locals := 180 } : Room) s_ m_ [.ref (A (i)), .int (iI ((k : Int)))].toArray below meth c_ H locs 0 0 (MQ below (va_Qv (fun g' => NatV E A g' (i + 15) (sv + gS Lo oz (gnV L px0) 1001) ∧ NatX E A g' (i + 17) ∧ ∀ j, (j ≠ i + 16 ∧ j ≠ i + 18) → g' j = g j) (wAt E A n) (wF A n sz)) [.ref (A (i)), .int (iI ((k : Int)))].toArray s_ 0 0 (wF A n sz)) (F0 m_ 12 ls []) := by
    intro fuel
    induction fuel with
    | zero => intro c z gz av gw H locs ls hm; exact absurd hm (Nat.not_lt_zero _)
    | succ fuel ih_12 =>
      intro c z gz av gw H locs ls hm hc hgz8 hzr hst n_i___15 n_i___17 hfr hW hl
      have hC : CrowdV E A gw (i + 1) xz bc := hCg.frame (hfr _ (by omega)) (hfr _ (by omega))
      have hCo : CrowdV E A gw (i + 6) oz ob := hCog.frame (hfr _ (by omega)) (hfr _ (by omega))
      have hBo : BksV E A gw n oz ob Lo := hBog.frame (fun k hk => by have := hdo k hk; exact ⟨hfr _ (by omega), hfr _ (by omega), hfr _ (by omega)⟩)
      have hbv : BookV E A gw (bc k) L := hbvg.frame (hfr _ (by omega)) (hfr _ (by omega)) (hfr _ (by omega))
      have h0 : gw i = .inr (1, [.ref (A (i + 1)), .ref (A (i + 6)), .ref (A (i + 11)), .ref (A (i + 12)), .ref (A (i + 13)), .ref (A (i + 14)), .ref (A (i + 15)), .ref (A (i + 17))]) := (hfr _ (by omega)).trans h0g
      have h11 : gw (i + 11) = aI E 6 fp := (hfr _ (by omega)).trans h11g
      have hc6 := hCo.1
      refine lv_iload X.1 X.2.1 dX1_addGains_12 (lv_at hl 4 rfl) ?_
      refine x_bipush X (by decide) dX1_addGains_14 ?_
      refine x_icmp_gt (tgt := 94) X ⟨by omega, by omega⟩ ⟨by decide, by decide⟩ dX1_addGains_16 (by decide) (fun b_16 => ?_) (fun b_16 => ?_)
      · obtain ⟨hg0, hav⟩ := hst.or.resolve_right (fun ⟨s, h1, h2, h3, h4, h5⟩ => by have := lvC_le hBog (s + 1); omega)
        exact x_vret X hr hlk hW (⟨by rw [← hav]; exact n_i___15, n_i___17, hfr⟩) dX1_addGains_94
      · refine lv_iload_n X.1 X.2.1 dX1_addGains_19 rfl (lv_at hl 3 rfl) ?_
        refine x_if_le (tgt := 94) X ⟨by omega, by omega⟩ dX1_addGains_20 (by decide) (fun b_20 => ?_) (fun b_20 => ?_)
        · have hav : av = sv + gS Lo oz (gnV L px0) 1001 := by
            rcases hst.or with h | ⟨s, h1, h2, h3, h4, h5⟩
            · exact h.2
            · have h6 := gS_end (Lo := Lo) (oz := oz) (gn := (gnV L px0)) (gn_mono L px0) (s := s) (by omega) (1001 - s)
              rw [show s + (1001 - s) = 1001 from by omega] at h6
              rw [h6]; exact h4
          exact x_vret X hr hlk hW (⟨by rw [← hav]; exact n_i___15, n_i___17, hfr⟩) dX1_addGains_94
        · obtain ⟨s, hzs, hs1, hgz, hav, hcl⟩ := hst.or.resolve_left (fun h => by omega)
          have hlvs := lvC_le hBog (s + 1)
          refine lv_aload_n X.1 X.2.1 dX1_addGains_23 rfl (lv_at hl 0 rfl) ?_
          refine x_get (C := RX1) (T := TX1) (N := 8) X hW (by omega) h0 rfl lk_0 1 (by decide) lk_1 rfl dX1_addGains_24 ?_
          refine lv_iload_n X.1 X.2.1 dX1_addGains_27 rfl (lv_at hl 2 rfl) ?_
          refine x_iconst X dX1_addGains_28 ?_
          refine x_iadd X dX1_addGains_29 ?_
          refine x_ci (x_runV (k := 1) (As := [.int (iI (z + 1))]) (rest := []) X hW (c_X3_leastFrom l E A n _ gw (i + 6) oz ob Lo (z + 1) (by omega) hCo hBo ⟨by omega, by omega⟩) (by omega) hc6 rfl gX1_addGains_X3_leastFrom rfl rfl rfl (by decide +kernel) ⟨by decide, by decide⟩ rfl hl.1 rfl (Nat.le_of_ble_eq_true rfl) dX1_addGains_30 ⟨Nat.zero_le _, Nat.zero_le _⟩) hW (fun r_30 g_30 H locs hp_30 hW => ?_)
          obtain ⟨⟨z_30, hz_30, hL_30⟩, he_30⟩ := hp_30
          rw [he_30] at hW
          subst hz_30
          have hzr_30 := LFC_rng hL_30
          refine lv_istore (lv' := [(5, .int (iI (z_30))), (0, .ref (A (i))), (1, .int (iI ((k : Int)))), (2, .int (iI (z))), (3, .int (iI (((gz : Nat) : Int)))), (4, .int (iI (((c : Nat) : Int))))]) X.1 X.2.1 dX1_addGains_33 hl (by decide) rfl (fun ls hl => ?_)
          refine lv_iload X.1 X.2.1 dX1_addGains_35 (lv_at hl 0 rfl) ?_
          refine x_iconst X dX1_addGains_37 ?_
          refine x_icmp_ne (tgt := 45) X ⟨by omega, by omega⟩ ⟨by decide, by decide⟩ dX1_addGains_38 (by decide) (fun b_38 => ?_) (fun b_38 => ?_)
          · obtain ⟨x, hzx, hx1, hx2, ⟨k9, hk9, hm9⟩, hx4⟩ := hL_30.resolve_left (fun h8 => b_38 h8.1)
            have hgx := gn_le2 L px0 (show s ≤ x by omega)
            refine lv_aload_n X.1 X.2.1 dX1_addGains_45 rfl (lv_at hl 1 rfl) ?_
            refine lv_iload X.1 X.2.1 dX1_addGains_46 (lv_at hl 0 rfl) ?_
            refine x_seti (((x : Nat) : Int)) hzx ?_
            refine lv_iload_n X.1 X.2.1 dX1_addGains_48 rfl (lv_at hl 2 rfl) ?_
            refine x_ci (x_runV (k := 2) (As := [.int (iI (((x : Nat) : Int))), .int (iI ((k : Int)))]) (rest := []) X hW (c_X1_gainAbove l E A n _ gw i xz k bc L px0 fp (x) hi h0 hC hk hx6 hbn hbv h11 hfp hp0 (by omega)) (by omega) h0 rfl gX1_addGains_X1_gainAbove rfl rfl rfl (by decide +kernel) ⟨by decide, by decide⟩ rfl hl.1 rfl (Nat.le_of_ble_eq_true rfl) dX1_addGains_49 ⟨Nat.zero_le _, Nat.zero_le _⟩) hW (fun r_49 g_49 H locs hp_49 hW => ?_)
            obtain ⟨hr_49, he_49⟩ := hp_49
            rw [he_49] at hW
            subst hr_49
            refine lv_istore (lv' := [(6, .int (iI (((gnV L px0 x : Nat) : Int)))), (5, .int (iI (z_30))), (0, .ref (A (i))), (1, .int (iI ((k : Int)))), (2, .int (iI (z))), (3, .int (iI (((gz : Nat) : Int)))), (4, .int (iI (((c : Nat) : Int))))]) X.1 X.2.1 dX1_addGains_52 hl (by decide) rfl (fun ls hl => ?_)
            refine lv_aload_n X.1 X.2.1 dX1_addGains_54 rfl (lv_at hl 2 rfl) ?_
            refine x_get (C := RX1) (T := TX1) (N := 8) X hW (by omega) h0 rfl lk_0 1 (by decide) lk_1 rfl dX1_addGains_55 ?_
            refine lv_iload_n X.1 X.2.1 dX1_addGains_58 rfl (lv_at hl 4 rfl) ?_
            refine lv_aload_n X.1 X.2.1 dX1_addGains_59 rfl (lv_at hl 2 rfl) ?_
            refine x_get (C := RX1) (T := TX1) (N := 8) X hW (by omega) h0 rfl lk_0 7 (by decide) lk_2 rfl dX1_addGains_60 ?_
            refine x_cv (x_runV (k := 2) (As := [.int (iI (z)), .ref (A (i + 17))]) (rest := []) X hW (c_X3_waysUpTo l E A n _ gw (i + 6) oz ob Lo z (i + 17) (by omega) hCo hBo (by omega) (by omega) (by omega) n_i___17 (by omega) (fun k hk => by have := hdo k hk; omega)) (by omega) hc6 rfl gX1_addGains_X3_waysUpTo rfl rfl rfl (by decide +kernel) ⟨by decide, by decide⟩ rfl hl.1 rfl (Nat.le_of_ble_eq_true rfl) dX1_addGains_63 ⟨Nat.zero_le _, Nat.zero_le _⟩) hW (fun g_63 H locs hp_63 hW => ?_)
            obtain ⟨nv_63, hf_63⟩ := hp_63
            rw [show z + 1 = ((s + 1 : Nat) : Int) from by omega] at nv_63
            have h0 : g_63 i = .inr (1, [.ref (A (i + 1)), .ref (A (i + 6)), .ref (A (i + 11)), .ref (A (i + 12)), .ref (A (i + 13)), .ref (A (i + 14)), .ref (A (i + 15)), .ref (A (i + 17))]) := by rw [hf_63 _ (by omega)]; exact h0
            have hc6 : g_63 (i + 6) = .inr (3, [.ref (A (i + 6 + 1)), .ref (A (i + 6 + 4)), .int (iI ((oz : Int)))]) := by rw [hf_63 _ (by omega)]; exact hc6
            have h11 : g_63 (i + 11) = aI E 6 fp := by rw [hf_63 _ (by omega)]; exact h11
            have n_i___15 : NatV E A g_63 (i + 15) av := n_i___15.frame (hf_63 _ (by omega)) (hf_63 _ (by omega))
            have n_i___17 : NatV E A g_63 (i + 17) (prB Lo ((s + 1 : Nat) : Int) oz) := nv_63
            have hfr : ∀ j, (j ≠ i + 16 ∧ j ≠ i + 18) → g_63 j = g j := fun j hj => (hf_63 j (by omega)).trans (hfr j hj)
            have hC : CrowdV E A g_63 (i + 1) xz bc := hCg.frame (hfr _ (by omega)) (hfr _ (by omega))
            have hCo : CrowdV E A g_63 (i + 6) oz ob := hCog.frame (hfr _ (by omega)) (hfr _ (by omega))
            have hBo : BksV E A g_63 n oz ob Lo := hBog.frame (fun k hk => by have := hdo k hk; exact ⟨hfr _ (by omega), hfr _ (by omega), hfr _ (by omega)⟩)
            have hbv : BookV E A g_63 (bc k) L := hbvg.frame (hfr _ (by omega)) (hfr _ (by omega)) (hfr _ (by omega))
            refine lv_aload_n X.1 X.2.1 dX1_addGains_66 rfl (lv_at hl 2 rfl) ?_
            refine x_get (C := RX1) (T := TX1) (N := 8) X hW (by omega) h0 rfl lk_0 6 (by decide) lk_3 rfl dX1_addGains_67 ?_
            refine lv_aload_n X.1 X.2.1 dX1_addGains_70 rfl (lv_at hl 2 rfl) ?_
            refine x_get (C := RX1) (T := TX1) (N := 8) X hW (by omega) h0 rfl lk_0 7 (by decide) lk_2 rfl dX1_addGains_71 ?_
            refine lv_iload_n X.1 X.2.1 dX1_addGains_74 rfl (lv_at hl 5 rfl) ?_
            refine lv_iload X.1 X.2.1 dX1_addGains_75 (lv_at hl 0 rfl) ?_
            refine x_isub X dX1_addGains_77 ?_
            refine x_i2l X ⟨by omega, by omega⟩ dX1_addGains_78 ?_
            refine x_setl ((gz - (gnV L px0 x) : Nat) : Int) (by omega) ?_
            have hadd : av + prB Lo ((s + 1 : Nat) : Int) oz * (gz - gnV L px0 x) = sv + gS Lo oz (gnV L px0) x := by rw [hav, hgz, gS_flat (gn := (gnV L px0)) (s := s) (gn_mono L px0) x (by omega) (fun y a b k hk => hx4 y (by omega) (by omega) k hk), Nat.add_assoc]
            have hle9 := gS_le (Lo := Lo) (oz := oz) (gn := (gnV L px0)) (gn_mono L px0) x
            refine x_cv (x_runV (k := 2) (As := [.ref (A (i + 17)), .long (lI (((gz - (gnV L px0 x) : Nat) : Int)))]) (rest := []) X hW (c_X5_addTimes l E A n _ g_63 (i + 15) (i + 17) av (prB Lo ((s + 1 : Nat) : Int) oz) (gz - (gnV L px0 x)) (by omega) (by omega) (by omega) (by omega) (by omega) n_i___15 n_i___17 (by omega) (by omega)) (by omega) n_i___15.2.1 rfl gX1_addGains_X5_addTimes rfl rfl rfl (by decide +kernel) ⟨by decide, by decide⟩ rfl hl.1 rfl (Nat.le_of_ble_eq_true rfl) dX1_addGains_79 ⟨Nat.zero_le _, Nat.zero_le _⟩) hW (fun g_79 H locs hp_79 hW => ?_)
            obtain ⟨nv_79, hf_79⟩ := hp_79
            have h0 : g_79 i = .inr (1, [.ref (A (i + 1)), .ref (A (i + 6)), .ref (A (i + 11)), .ref (A (i + 12)), .ref (A (i + 13)), .ref (A (i + 14)), .ref (A (i + 15)), .ref (A (i + 17))]) := by rw [hf_79 _ (by omega)]; exact h0
            have hc6 : g_79 (i + 6) = .inr (3, [.ref (A (i + 6 + 1)), .ref (A (i + 6 + 4)), .int (iI ((oz : Int)))]) := by rw [hf_79 _ (by omega)]; exact hc6
            have h11 : g_79 (i + 11) = aI E 6 fp := by rw [hf_79 _ (by omega)]; exact h11
            have n_i___17 : NatV E A g_79 (i + 17) (prB Lo ((s + 1 : Nat) : Int) oz) := n_i___17.frame (hf_79 _ (by omega)) (hf_79 _ (by omega))
            have n_i___15 : NatV E A g_79 (i + 15) (av + prB Lo ((s + 1 : Nat) : Int) oz * (gz - (gnV L px0 x))) := nv_79
            have hfr : ∀ j, (j ≠ i + 16 ∧ j ≠ i + 18) → g_79 j = g j := fun j hj => (hf_79 j (by omega)).trans (hfr j hj)
            refine lv_iload X.1 X.2.1 dX1_addGains_82 (lv_at hl 1 rfl) ?_
            refine lv_istore_n (lv' := [(2, .int (iI (z_30))), (6, .int (iI (((gnV L px0 x : Nat) : Int)))), (5, .int (iI (z_30))), (0, .ref (A (i))), (1, .int (iI ((k : Int)))), (3, .int (iI (((gz : Nat) : Int)))), (4, .int (iI (((c : Nat) : Int))))]) X.1 X.2.1 dX1_addGains_84 rfl hl (by decide) rfl (fun ls hl => ?_)
            refine lv_iload X.1 X.2.1 dX1_addGains_85 (lv_at hl 1 rfl) ?_
            refine lv_istore_n (lv' := [(3, .int (iI (((gnV L px0 x : Nat) : Int)))), (2, .int (iI (z_30))), (6, .int (iI (((gnV L px0 x : Nat) : Int)))), (5, .int (iI (z_30))), (0, .ref (A (i))), (1, .int (iI ((k : Int)))), (4, .int (iI (((c : Nat) : Int))))]) X.1 X.2.1 dX1_addGains_87 rfl hl (by decide) rfl (fun ls hl => ?_)
            refine lv_iinc (v := iI (((c + 1 : Nat) : Int))) (lv' := [(4, .int (iI (((c + 1 : Nat) : Int)))), (3, .int (iI (((gnV L px0 x : Nat) : Int)))), (2, .int (iI (z_30))), (6, .int (iI (((gnV L px0 x : Nat) : Int)))), (5, .int (iI (z_30))), (0, .ref (A (i))), (1, .int (iI ((k : Int))))]) X.1 X.2.1 dX1_addGains_88 hl (k := 6) rfl (by rw [show (Int32.ofInt (1)) = iI (1) from rfl, iI_add]; rfl) (by decide) rfl (fun ls hl => ?_)
            refine lv_goto (tgt := 12) X.1 X.2.1 dX1_addGains_91 (by decide) ?_
            exact ih_12 (c + 1) z_30 (gnV L px0 x) (av + prB Lo ((s + 1 : Nat) : Int) oz * (gz - gnV L px0 x)) g_79 _ _ _ (by omega) (by omega) (by omega) hzr_30 (Or.inr ⟨x, hzx, hx1, rfl, hadd, Nat.le_trans (Nat.succ_le_succ hcl) (lvC_step hk9 hm9 (by omega))⟩) n_i___15 n_i___17.any hfr hW (lv_sub hl [5, 6, 2, 1, 0] rfl)
          · have hnone : ∀ y, s + 1 ≤ y → ∀ k, k < oz → bMass (Lo k) y = 0 := fun y hy k hk => (hL_30.resolve_right (fun h9 => by obtain ⟨x8, h8, _⟩ := h9; omega)).2 y (by omega) k hk
            refine x_iconst X dX1_addGains_41 ?_
            refine lv_goto (tgt := 52) X.1 X.2.1 dX1_addGains_42 (by decide) ?_
            refine x_seti ((0 : Nat) : Int) rfl ?_
            refine lv_istore (lv' := [(6, .int (iI (((0 : Nat) : Int)))), (5, .int (iI (z_30))), (0, .ref (A (i))), (1, .int (iI ((k : Int)))), (2, .int (iI (z))), (3, .int (iI (((gz : Nat) : Int)))), (4, .int (iI (((c : Nat) : Int))))]) X.1 X.2.1 dX1_addGains_52 hl (by decide) rfl (fun ls hl => ?_)
            refine lv_aload_n X.1 X.2.1 dX1_addGains_54 rfl (lv_at hl 2 rfl) ?_
            refine x_get (C := RX1) (T := TX1) (N := 8) X hW (by omega) h0 rfl lk_0 1 (by decide) lk_1 rfl dX1_addGains_55 ?_
            refine lv_iload_n X.1 X.2.1 dX1_addGains_58 rfl (lv_at hl 4 rfl) ?_
            refine lv_aload_n X.1 X.2.1 dX1_addGains_59 rfl (lv_at hl 2 rfl) ?_
            refine x_get (C := RX1) (T := TX1) (N := 8) X hW (by omega) h0 rfl lk_0 7 (by decide) lk_2 rfl dX1_addGains_60 ?_
            refine x_cv (x_runV (k := 2) (As := [.int (iI (z)), .ref (A (i + 17))]) (rest := []) X hW (c_X3_waysUpTo l E A n _ gw (i + 6) oz ob Lo z (i + 17) (by omega) hCo hBo (by omega) (by omega) (by omega) n_i___17 (by omega) (fun k hk => by have := hdo k hk; omega)) (by omega) hc6 rfl gX1_addGains_X3_waysUpTo rfl rfl rfl (by decide +kernel) ⟨by decide, by decide⟩ rfl hl.1 rfl (Nat.le_of_ble_eq_true rfl) dX1_addGains_63 ⟨Nat.zero_le _, Nat.zero_le _⟩) hW (fun g_63 H locs hp_63 hW => ?_)
            obtain ⟨nv_63, hf_63⟩ := hp_63
            rw [show z + 1 = ((s + 1 : Nat) : Int) from by omega] at nv_63
            have h0 : g_63 i = .inr (1, [.ref (A (i + 1)), .ref (A (i + 6)), .ref (A (i + 11)), .ref (A (i + 12)), .ref (A (i + 13)), .ref (A (i + 14)), .ref (A (i + 15)), .ref (A (i + 17))]) := by rw [hf_63 _ (by omega)]; exact h0
            have hc6 : g_63 (i + 6) = .inr (3, [.ref (A (i + 6 + 1)), .ref (A (i + 6 + 4)), .int (iI ((oz : Int)))]) := by rw [hf_63 _ (by omega)]; exact hc6
            have h11 : g_63 (i + 11) = aI E 6 fp := by rw [hf_63 _ (by omega)]; exact h11
            have n_i___15 : NatV E A g_63 (i + 15) av := n_i___15.frame (hf_63 _ (by omega)) (hf_63 _ (by omega))
            have n_i___17 : NatV E A g_63 (i + 17) (prB Lo ((s + 1 : Nat) : Int) oz) := nv_63
            have hfr : ∀ j, (j ≠ i + 16 ∧ j ≠ i + 18) → g_63 j = g j := fun j hj => (hf_63 j (by omega)).trans (hfr j hj)
            have hC : CrowdV E A g_63 (i + 1) xz bc := hCg.frame (hfr _ (by omega)) (hfr _ (by omega))
            have hCo : CrowdV E A g_63 (i + 6) oz ob := hCog.frame (hfr _ (by omega)) (hfr _ (by omega))
            have hBo : BksV E A g_63 n oz ob Lo := hBog.frame (fun k hk => by have := hdo k hk; exact ⟨hfr _ (by omega), hfr _ (by omega), hfr _ (by omega)⟩)
            have hbv : BookV E A g_63 (bc k) L := hbvg.frame (hfr _ (by omega)) (hfr _ (by omega)) (hfr _ (by omega))
            refine lv_aload_n X.1 X.2.1 dX1_addGains_66 rfl (lv_at hl 2 rfl) ?_
            refine x_get (C := RX1) (T := TX1) (N := 8) X hW (by omega) h0 rfl lk_0 6 (by decide) lk_3 rfl dX1_addGains_67 ?_
            refine lv_aload_n X.1 X.2.1 dX1_addGains_70 rfl (lv_at hl 2 rfl) ?_
            refine x_get (C := RX1) (T := TX1) (N := 8) X hW (by omega) h0 rfl lk_0 7 (by decide) lk_2 rfl dX1_addGains_71 ?_
            refine lv_iload_n X.1 X.2.1 dX1_addGains_74 rfl (lv_at hl 5 rfl) ?_
            refine lv_iload X.1 X.2.1 dX1_addGains_75 (lv_at hl 0 rfl) ?_
            refine x_isub X dX1_addGains_77 ?_
            refine x_i2l X ⟨by omega, by omega⟩ dX1_addGains_78 ?_
            refine x_setl ((gz - 0 : Nat) : Int) (by omega) ?_
            have hadd : av + prB Lo ((s + 1 : Nat) : Int) oz * (gz - 0) = sv + gS Lo oz (gnV L px0) 1001 := by rw [hav, hgz, gS_flat (gn := (gnV L px0)) (s := s) (gn_mono L px0) 1001 (by omega) (fun y a b k hk => hnone y a k hk), gn_top hbvg, Nat.add_assoc]
            have hle9 := gS_le (Lo := Lo) (oz := oz) (gn := (gnV L px0)) (gn_mono L px0) 1001
            refine x_cv (x_runV (k := 2) (As := [.ref (A (i + 17)), .long (lI (((gz - 0 : Nat) : Int)))]) (rest := []) X hW (c_X5_addTimes l E A n _ g_63 (i + 15) (i + 17) av (prB Lo ((s + 1 : Nat) : Int) oz) (gz - 0) (by omega) (by omega) (by omega) (by omega) (by omega) n_i___15 n_i___17 (by omega) (by omega)) (by omega) n_i___15.2.1 rfl gX1_addGains_X5_addTimes rfl rfl rfl (by decide +kernel) ⟨by decide, by decide⟩ rfl hl.1 rfl (Nat.le_of_ble_eq_true rfl) dX1_addGains_79 ⟨Nat.zero_le _, Nat.zero_le _⟩) hW (fun g_79 H locs hp_79 hW => ?_)
            obtain ⟨nv_79, hf_79⟩ := hp_79
            have h0 : g_79 i = .inr (1, [.ref (A (i + 1)), .ref (A (i + 6)), .ref (A (i + 11)), .ref (A (i + 12)), .ref (A (i + 13)), .ref (A (i + 14)), .ref (A (i + 15)), .ref (A (i + 17))]) := by rw [hf_79 _ (by omega)]; exact h0
            have hc6 : g_79 (i + 6) = .inr (3, [.ref (A (i + 6 + 1)), .ref (A (i + 6 + 4)), .int (iI ((oz : Int)))]) := by rw [hf_79 _ (by omega)]; exact hc6
            have h11 : g_79 (i + 11) = aI E 6 fp := by rw [hf_79 _ (by omega)]; exact h11
            have n_i___17 : NatV E A g_79 (i + 17) (prB Lo ((s + 1 : Nat) : Int) oz) := n_i___17.frame (hf_79 _ (by omega)) (hf_79 _ (by omega))
            have n_i___15 : NatV E A g_79 (i + 15) (av + prB Lo ((s + 1 : Nat) : Int) oz * (gz - 0)) := nv_79
            have hfr : ∀ j, (j ≠ i + 16 ∧ j ≠ i + 18) → g_79 j = g j := fun j hj => (hf_79 j (by omega)).trans (hfr j hj)
            refine lv_iload X.1 X.2.1 dX1_addGains_82 (lv_at hl 1 rfl) ?_
            refine lv_istore_n (lv' := [(2, .int (iI (z_30))), (6, .int (iI (((0 : Nat) : Int)))), (5, .int (iI (z_30))), (0, .ref (A (i))), (1, .int (iI ((k : Int)))), (3, .int (iI (((gz : Nat) : Int)))), (4, .int (iI (((c : Nat) : Int))))]) X.1 X.2.1 dX1_addGains_84 rfl hl (by decide) rfl (fun ls hl => ?_)
            refine lv_iload X.1 X.2.1 dX1_addGains_85 (lv_at hl 1 rfl) ?_
            refine lv_istore_n (lv' := [(3, .int (iI (((0 : Nat) : Int)))), (2, .int (iI (z_30))), (6, .int (iI (((0 : Nat) : Int)))), (5, .int (iI (z_30))), (0, .ref (A (i))), (1, .int (iI ((k : Int)))), (4, .int (iI (((c : Nat) : Int))))]) X.1 X.2.1 dX1_addGains_87 rfl hl (by decide) rfl (fun ls hl => ?_)
            refine lv_iinc (v := iI (((c + 1 : Nat) : Int))) (lv' := [(4, .int (iI (((c + 1 : Nat) : Int)))), (3, .int (iI (((0 : Nat) : Int)))), (2, .int (iI (z_30))), (6, .int (iI (((0 : Nat) : Int)))), (5, .int (iI (z_30))), (0, .ref (A (i))), (1, .int (iI ((k : Int))))]) X.1 X.2.1 dX1_addGains_88 hl (k := 6) rfl (by rw [show (Int32.ofInt (1)) = iI (1) from rfl, iI_add]; rfl) (by decide) rfl (fun ls hl => ?_)
            refine lv_goto (tgt := 12) X.1 X.2.1 dX1_addGains_91 (by decide) ?_
            exact ih_12 (c + 1) z_30 0 (av + prB Lo ((s + 1 : Nat) : Int) oz * (gz - 0)) g_79 _ _ _ (by omega) (by omega) (by omega) hzr_30 (Or.inl ⟨rfl, hadd⟩) n_i___15 n_i___17.any hfr hW (lv_sub hl [5, 6, 2, 1, 0] rfl)
  exact loop_12 _ 0 0 (gnV L px0 0) sv g _ _ _ (Nat.lt_succ_self _) (by omega) hgn0 (by omega) (Or.inr ⟨0, rfl, by omega, rfl, rfl, Nat.zero_le _⟩) n_i___15 n_i___17 hfr hW (lv_sub hl [3, 4, 2, 1, 0] rfl)
