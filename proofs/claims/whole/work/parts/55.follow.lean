/-! ===== the class's Comers ===== -/
/-- its cells, the told bars apart: the crowd, rows of bars, the means, and numbers to count with -/
def ComV (E : wE) (A : Nat → Nat) (g : Nat → va_E) (i cz : Nat) (bc : Nat → Nat) (tb : Nat → Nat) : Prop := g i = .inr (2, [.ref (A (i + 1)), .ref (A (i + 6)), .ref (A (i + 7)), .ref (A (i + 8)), .ref (A (i + 9)), .ref (A (i + 10)), .ref (A (i + 12)), .ref (A (i + 14)), .ref (A (i + 16)), .ref (A (i + 18))]) ∧ CrowdV E A g (i + 1) cz bc ∧ (∃ f : Nat → Int32, g (i + 6) = aI E 10 f ∧ ∀ k, k < cz → f k = iI ((tb k : Nat) : Int)) ∧ (∃ f : Nat → Int32, g (i + 7) = aI E 10 f) ∧ (∃ f : Nat → Int32, g (i + 8) = aI E 10 f) ∧ (∃ f : Nat → Option Nat, g (i + 9) = aR E 3 11 f ∧ ∀ k, k < 11 → f k = some (A (i + 20 + 2 * k))) ∧ (NatX E A g (i + 10) ∧ NatX E A g (i + 12) ∧ NatX E A g (i + 14) ∧ NatX E A g (i + 16) ∧ NatX E A g (i + 18)) ∧ ∀ k, k < 11 → NatX E A g (i + 20 + 2 * k)
theorem ComV.frame {E : wE} {A : Nat → Nat} {g g' : Nat → va_E} {i cz : Nat} {bc tb : Nat → Nat} (h : ComV E A g i cz bc tb) (hf : ∀ j, i ≤ j → j ≤ i + 41 → g' j = g j) : ComV E A g' i cz bc tb := by
  obtain ⟨h0, h1, ⟨f6, a6, b6⟩, ⟨f7, a7⟩, ⟨f8, a8⟩, ⟨f9, a9, b9⟩, ⟨n1, n2, n3, n4, n5⟩, nk⟩ := h
  exact ⟨(hf _ (by omega) (by omega)).trans h0, h1.frame (hf _ (by omega) (by omega)) (hf _ (by omega) (by omega)), ⟨f6, (hf _ (by omega) (by omega)).trans a6, b6⟩, ⟨f7, (hf _ (by omega) (by omega)).trans a7⟩, ⟨f8, (hf _ (by omega) (by omega)).trans a8⟩, ⟨f9, (hf _ (by omega) (by omega)).trans a9, b9⟩, ⟨n1.frame (hf _ (by omega) (by omega)) (hf _ (by omega) (by omega)), n2.frame (hf _ (by omega) (by omega)) (hf _ (by omega) (by omega)), n3.frame (hf _ (by omega) (by omega)) (hf _ (by omega) (by omega)), n4.frame (hf _ (by omega) (by omega)) (hf _ (by omega) (by omega)), n5.frame (hf _ (by omega) (by omega)) (hf _ (by omega) (by omega))⟩, fun k hk => (nk k hk).frame (hf _ (by omega) (by omega)) (hf _ (by omega) (by omega))⟩
/-- the worth of a rule from behind: its mean, by all ways -/
def foA (Lk : Nat → List (Nat × Nat)) (cz : Nat) : Nat → Nat
  | 0 => 1
  | d + 1 => foA Lk cz d * bE (Lk (cz - 1 - d)) (fun _ => 1)
def foM (Lk : Nat → List (Nat × Nat)) (br : Nat → Nat) (cz : Nat) : Nat → Nat
  | 0 => 0
  | d + 1 => foM Lk br cz d * bBelow (Lk (cz - 1 - d)) ((br (cz - 1 - d) : Nat) : Int) + foA Lk cz d * bGath (Lk (cz - 1 - d)) ((br (cz - 1 - d) : Nat) : Int)
theorem foA_le {Lk : Nat → List (Nat × Nat)} {cz : Nat} (ht : ∀ k, k < cz → bE (Lk k) (fun _ => 1) ≤ 8000) : ∀ d, d ≤ cz → foA Lk cz d ≤ 8000 ^ d := by
  intro d
  induction d with
  | zero => intro _; exact Nat.le_refl _
  | succ d ih => intro hd; show foA Lk cz d * _ ≤ 8000 ^ (d + 1); rw [Nat.pow_succ]; exact Nat.mul_le_mul (ih (by omega)) (ht _ (by omega))
theorem foM_le {Lk : Nat → List (Nat × Nat)} {br : Nat → Nat} {cz : Nat} (ht : ∀ k, k < cz → bE (Lk k) (fun _ => 1) ≤ 8000 ∧ (∀ b : Int, bBelow (Lk k) b ≤ 8000) ∧ ∀ b : Int, bGath (Lk k) b ≤ 8000000) : ∀ d, d ≤ cz → foM Lk br cz d ≤ d * 1000 * 8000 ^ d := by
  intro d
  induction d with
  | zero => intro _; exact Nat.zero_le _
  | succ d ih =>
    intro hd
    have h1 := ih (by omega)
    have h2 := foA_le (fun k hk => (ht k hk).1) d (by omega)
    have h3 := ht (cz - 1 - d) (by omega)
    have a1 : foM Lk br cz d * bBelow (Lk (cz - 1 - d)) ((br (cz - 1 - d) : Nat) : Int) ≤ d * 1000 * 8000 ^ d * 8000 := Nat.mul_le_mul h1 (h3.2.1 _)
    have a2 : foA Lk cz d * bGath (Lk (cz - 1 - d)) ((br (cz - 1 - d) : Nat) : Int) ≤ 8000 ^ d * 8000000 := Nat.mul_le_mul h2 (h3.2.2 _)
    show foM Lk br cz d * _ + foA Lk cz d * _ ≤ (d + 1) * 1000 * 8000 ^ (d + 1)
    have e1 : (d + 1) * 1000 * 8000 ^ (d + 1) = d * 1000 * 8000 ^ d * 8000 + 8000 ^ d * 8000000 := by
      rw [Nat.pow_succ, ← Nat.mul_assoc, Nat.add_mul, Nat.add_mul, Nat.add_mul, Nat.one_mul, Nat.mul_comm 1000 (8000 ^ d), Nat.mul_assoc (8000 ^ d) 1000 8000]
    omega
theorem pow_cap {d : Nat} (h : d ≤ 10) : d * 1000 * 8000 ^ d < 10 ^ 53 ∧ 8000 ^ d < 10 ^ 53 := by
  have h1 : 8000 ^ d ≤ 8000 ^ 10 := Nat.pow_le_pow_right (by decide) h
  have h2 : d * 1000 * 8000 ^ d ≤ 10 * 1000 * 8000 ^ 10 := Nat.mul_le_mul (Nat.mul_le_mul_right _ h) h1
  exact ⟨Nat.lt_of_le_of_lt h2 (by decide), Nat.lt_of_le_of_lt h1 (by decide)⟩

set_option maxHeartbeats 4000000 in
set_option maxRecDepth 100000 in
/-- follow: the rule of these bars, from the last comer to the first -/
theorem c_X2_follow (l : Launch) (E : wE) (A : Nat → Nat) (n sz : Nat) (g : Nat → va_E) (i cz : Nat) (bc : Nat → Nat) (Lk : Nat → List (Nat × Nat)) (ba : Nat) (fb : Nat → Int32) (br : Nat → Nat) (hi : i + 41 < n) (h0 : g i = .inr (2, [.ref (A (i + 1)), .ref (A (i + 6)), .ref (A (i + 7)), .ref (A (i + 8)), .ref (A (i + 9)), .ref (A (i + 10)), .ref (A (i + 12)), .ref (A (i + 14)), .ref (A (i + 16)), .ref (A (i + 18))])) (hC : CrowdV E A g (i + 1) cz bc) (hB : BksV E A g n cz bc Lk) (hdb : ∀ k, k < cz → i + 41 < bc k ∨ bc k + 2 < i) (hba : ba < n) (hbd : ba = i + 6 ∨ ba = i + 8) (hb0 : g ba = aI E 10 fb) (hbr : ∀ k, k < cz → br k ≤ 1001 ∧ fb k = iI ((br k : Nat) : Int)) (hX1 : NatX E A g (i + 10)) (hX2 : NatX E A g (i + 12)) : Met l yX2_follow wsX2_follow ({ frames := 3, cells := 0, slots := 0, locals := 120 } : Room) (va_Pc [.ref (A (i)), .ref (A (ba))] (wPre E A n sz g)) (va_Qv (fun g' => NatV E A g' (i + 10) (foM Lk br cz cz) ∧ NatV E A g' (i + 12) (foA Lk cz cz) ∧ ∀ j, (j ≠ i + 11 ∧ j ≠ i + 13) → g' j = g j) (wAt E A n) (wF A n sz)) 0 0 (wF A n sz) := by
  refine x_met (cc := cX2_follow) (maxL := 4) (ret := none) [.ref (A (i)), .ref (A (ba))] (by decide) rfl (Nat.le_of_ble_eq_true rfl) ?_
  intro p e s m below meth c ls X hr hlk hnm hsz hW hl
  have hl : lv_has ls 4 [(0, .ref (A (i))), (1, .ref (A (ba)))] := hl
  have lk_0 : ∀ w ∈ wsX20, w ∈ wsX2_follow := by decide +kernel
  have lk_1 : Cond.fieldLink RX2 35 (TX2 5).1 (TX2 5).2.1 (TX2 5).2.2.1 ∈ wsX2_follow := by decide +kernel
  have lk_2 : Cond.fieldLink RX2 39 (TX2 6).1 (TX2 6).2.1 (TX2 6).2.2.1 ∈ wsX2_follow := by decide +kernel
  have lk_3 : Cond.fieldLink RX2 12 (TX2 0).1 (TX2 0).2.1 (TX2 0).2.2.1 ∈ wsX2_follow := by decide +kernel
  have lk_4 : Cond.methodLink RX2 80 Lib.Math.min.name ∈ wsX2_follow := by decide +kernel
  have lk_5 : Cond.static Lib.Math.min.name ∈ wsX2_follow := by decide +kernel
  have lk_6 : Cond.initialized "java/lang/Math" ∈ wsX2_follow := by decide +kernel
  have lk_7 : Cond.code Lib.Math.min.name Lib.Math.min.code 2 (some .int) ∈ wsX2_follow := by decide +kernel
  have hCg := hC
  have hBg := hB
  have h0g := h0
  have hb0g := hb0
  have n_10 := hX1
  have n_12 := hX2
  have hc0 := hC.1
  have hz10 : cz ≤ 10 := hC.2.1
  have hfr : ∀ j, (j ≠ i + 11 ∧ j ≠ i + 13) → g j = g j := fun _ _ => rfl
  have htt : ∀ k, k < cz → bE (Lk k) (fun _ => 1) ≤ 8000 ∧ (∀ b : Int, bBelow (Lk k) b ≤ 8000) ∧ ∀ b : Int, bGath (Lk k) b ≤ 8000000 := fun k hk => ⟨(hB k hk).2.tot, (hB k hk).2.le, (hB k hk).2.gle⟩
  refine lv_aload_n X.1 X.2.1 dX2_follow_0 rfl (lv_at hl 0 rfl) ?_
  refine x_get (C := RX2) (T := TX2) (N := 10) X hW (by omega) h0 rfl lk_0 5 (by decide) lk_1 rfl dX2_follow_1 ?_
  refine x_lconst X 0 (by decide) dX2_follow_4 ?_
  refine x_cv (x_runV (k := 1) (As := [.long (lI (0))]) (rest := []) X hW (c_X5_put l E A n _ g (i + 10) 0 (by omega) n_10 (by decide)) (by omega) n_10.1 rfl gX2_follow_X5_put rfl rfl rfl (by decide +kernel) ⟨by decide, by decide⟩ rfl hl.1 rfl (Nat.le_of_ble_eq_true rfl) dX2_follow_5 ⟨Nat.zero_le _, Nat.zero_le _⟩) hW (fun g_5 H locs hp_5 hW => ?_)
  obtain ⟨nv_5, hf_5⟩ := hp_5
  have h0 : g_5 i = .inr (2, [.ref (A (i + 1)), .ref (A (i + 6)), .ref (A (i + 7)), .ref (A (i + 8)), .ref (A (i + 9)), .ref (A (i + 10)), .ref (A (i + 12)), .ref (A (i + 14)), .ref (A (i + 16)), .ref (A (i + 18))]) := by rw [hf_5 _ (by omega)]; exact h0
  have hc0 : g_5 (i + 1) = .inr (3, [.ref (A (i + 1 + 1)), .ref (A (i + 1 + 4)), .int (iI ((cz : Int)))]) := by rw [hf_5 _ (by omega)]; exact hc0
  have hb0 : g_5 ba = aI E 10 fb := by rw [hf_5 _ (by omega)]; exact hb0
  have n_12 : NatX E A g_5 (i + 12) := n_12.frame (hf_5 _ (by omega)) (hf_5 _ (by omega))
  have n_10 : NatV E A g_5 (i + 10) 0 := nv_5
  have hfr : ∀ j, (j ≠ i + 11 ∧ j ≠ i + 13) → g_5 j = g j := fun j hj => (hf_5 j (by omega)).trans (hfr j hj)
  refine lv_aload_n X.1 X.2.1 dX2_follow_8 rfl (lv_at hl 0 rfl) ?_
  refine x_get (C := RX2) (T := TX2) (N := 10) X hW (by omega) h0 rfl lk_0 6 (by decide) lk_2 rfl dX2_follow_9 ?_
  refine x_lconst X 1 (by decide) dX2_follow_12 ?_
  refine x_cv (x_runV (k := 1) (As := [.long (lI (1))]) (rest := []) X hW (c_X5_put l E A n _ g_5 (i + 12) 1 (by omega) n_12 (by decide)) (by omega) n_12.1 rfl gX2_follow_X5_put rfl rfl rfl (by decide +kernel) ⟨by decide, by decide⟩ rfl hl.1 rfl (Nat.le_of_ble_eq_true rfl) dX2_follow_13 ⟨Nat.zero_le _, Nat.zero_le _⟩) hW (fun g_13 H locs hp_13 hW => ?_)
  obtain ⟨nv_13, hf_13⟩ := hp_13
  have h0 : g_13 i = .inr (2, [.ref (A (i + 1)), .ref (A (i + 6)), .ref (A (i + 7)), .ref (A (i + 8)), .ref (A (i + 9)), .ref (A (i + 10)), .ref (A (i + 12)), .ref (A (i + 14)), .ref (A (i + 16)), .ref (A (i + 18))]) := by rw [hf_13 _ (by omega)]; exact h0
  have hc0 : g_13 (i + 1) = .inr (3, [.ref (A (i + 1 + 1)), .ref (A (i + 1 + 4)), .int (iI ((cz : Int)))]) := by rw [hf_13 _ (by omega)]; exact hc0
  have hb0 : g_13 ba = aI E 10 fb := by rw [hf_13 _ (by omega)]; exact hb0
  have n_10 : NatV E A g_13 (i + 10) 0 := n_10.frame (hf_13 _ (by omega)) (hf_13 _ (by omega))
  have n_12 : NatV E A g_13 (i + 12) 1 := nv_13
  have hfr : ∀ j, (j ≠ i + 11 ∧ j ≠ i + 13) → g_13 j = g j := fun j hj => (hf_13 j (by omega)).trans (hfr j hj)
  refine lv_aload_n X.1 X.2.1 dX2_follow_16 rfl (lv_at hl 0 rfl) ?_
  refine x_get (C := RX2) (T := TX2) (N := 10) X hW (by omega) h0 rfl lk_0 0 (by decide) lk_3 rfl dX2_follow_17 ?_
  have hC : CrowdV E A g_13 (i + 1) cz bc := hCg.frame (hfr _ (by omega)) (hfr _ (by omega))
  refine x_ci (x_runV (k := 0) (As := []) (rest := []) X hW (c_X3_size l E A n _ g_13 (i + 1) cz bc (by omega) hC) (by omega) hc0 rfl gX2_follow_X3_size rfl rfl rfl (by decide +kernel) ⟨by decide, by decide⟩ rfl hl.1 rfl (Nat.le_of_ble_eq_true rfl) dX2_follow_20 ⟨Nat.zero_le _, Nat.zero_le _⟩) hW (fun r_20 g_20 H locs hp_20 hW => ?_)
  obtain ⟨hr_20, he_20⟩ := hp_20
  rw [he_20] at hW
  subst hr_20
  refine lv_aload_n X.1 X.2.1 dX2_follow_23 rfl (lv_at hl 1 rfl) ?_
  refine x_alen X hW (by omega) hb0 rfl dX2_follow_24 ?_
  refine x_mmini X hl.1 ⟨by omega, by omega⟩ ⟨by omega, by omega⟩ lk_4 lk_5 lk_6 lk_7 (by decide) (Nat.le_of_ble_eq_true rfl) (Nat.zero_le _) (Nat.zero_le _) dX2_follow_25 ?_
  refine x_iconst X dX2_follow_28 ?_
  refine x_isub X dX2_follow_29 ?_
  refine x_seti (((cz : Nat) : Int) - 1) (by split <;> omega) ?_
  refine lv_istore_n (lv' := [(2, .int (iI (((cz : Nat) : Int) - 1))), (0, .ref (A (i))), (1, .ref (A (ba)))]) X.1 X.2.1 dX2_follow_30 rfl hl (by decide) rfl (fun ls hl => ?_)
  have loop_31 : ∀ (fuel : Nat) (k : Nat) (gw : Nat → va_E) (H : Heap) (locs : List Loc) (ls : Array Slot), (k) < fuel → (k ≤ cz) → (NatV E A gw (i + 10) (foM Lk br cz (cz - k))) → (NatV E A gw (i + 12) (foA Lk cz (cz - k))) → (∀ j, (j ≠ i + 11 ∧ j ≠ i + 13) → gw j = g j) → wH E (wF A n sz) A n s gw H locs → lv_has ls 4 [(0, .ref (A (i))), (1, .ref (A (ba))), (2, .int (iI ((k : Int) - 1)))] → W p l e ({ frames := 3, cells := 0, slots := 0, locals := 120 } : Room) s m [.ref (A (i)), .ref (A (ba))].toArray below meth c H locs 0 0 (MQ below (va_Qv (fun g' => NatV E A g' (i + 10) (foM Lk br cz cz) ∧ NatV E A g' (i + 12) (foA Lk cz cz) ∧ ∀ j, (j ≠ i + 11 ∧ j ≠ i + 13) → g' j = g j) (wAt E A n) (wF A n sz)) [.ref (A (i)), .ref (A (ba))].toArray s 0 0 (wF A n sz)) (F0 m 31 ls []) := by
    intro fuel
    induction fuel with
    | zero => intro k gw H locs ls hm; exact absurd hm (Nat.not_lt_zero _)
    | succ fuel ih_31 =>
      intro k gw H locs ls hm hk n_10 n_12 hfr hW hl
      have hC : CrowdV E A gw (i + 1) cz bc := hCg.frame (hfr _ (by omega)) (hfr _ (by omega))
      have hB : BksV E A gw n cz bc Lk := hBg.frame (fun k hk => by have := hdb k hk; exact ⟨hfr _ (by omega), hfr _ (by omega), hfr _ (by omega)⟩)
      have h0 : gw i = .inr (2, [.ref (A (i + 1)), .ref (A (i + 6)), .ref (A (i + 7)), .ref (A (i + 8)), .ref (A (i + 9)), .ref (A (i + 10)), .ref (A (i + 12)), .ref (A (i + 14)), .ref (A (i + 16)), .ref (A (i + 18))]) := (hfr _ (by omega)).trans h0g
      have hb0 : gw ba = aI E 10 fb := (hfr _ (by omega)).trans hb0g
      have hc0 := hC.1
      refine lv_iload_n X.1 X.2.1 dX2_follow_31 rfl (lv_at hl 2 rfl) ?_
      refine x_if_lt (tgt := 96) X ⟨by omega, by omega⟩ dX2_follow_32 (by decide) (fun b_32 => ?_) (fun b_32 => ?_)
      · exact x_vret X hr hlk hW (⟨by rw [show k = 0 from by omega, Nat.sub_zero] at n_10; exact n_10, by rw [show k = 0 from by omega, Nat.sub_zero] at n_12; exact n_12, hfr⟩) dX2_follow_96
      · obtain ⟨t, ht⟩ : ∃ t, k = t + 1 := ⟨k - 1, by omega⟩
        have hk9 : t < cz := by omega
        have hdk := hdb t hk9
        have hbt := hbr t hk9
        have htk := htt t hk9
        have et : cz - 1 - (cz - k) = t := by omega
        have hst1 : foM Lk br cz (cz - t) = foM Lk br cz (cz - k) * bBelow (Lk t) ((br t : Nat) : Int) + foA Lk cz (cz - k) * bGath (Lk t) ((br t : Nat) : Int) := by
          rw [show cz - t = cz - k + 1 from by omega]; show foM Lk br cz (cz - k) * _ + foA Lk cz (cz - k) * _ = _; rw [et]
        have hst2 : foA Lk cz (cz - t) = foA Lk cz (cz - k) * bE (Lk t) (fun _ => 1) := by
          rw [show cz - t = cz - k + 1 from by omega]; show foA Lk cz (cz - k) * _ = _; rw [et]
        have hm1 := foM_le (br := br) htt (cz - t) (by omega)
        have hm2 := foA_le (fun k hk => (htt k hk).1) (cz - t) (by omega)
        have hm3 := pow_cap (d := cz - t) (by omega)
        rw [hst1] at hm1
        rw [hst2] at hm2
        have hq1 := htk.2.1 ((br t : Nat) : Int)
        have hq2 := htk.2.2 ((br t : Nat) : Int)
        have hq3 := htk.1
        refine lv_aload_n X.1 X.2.1 dX2_follow_35 rfl (lv_at hl 0 rfl) ?_
        refine x_get (C := RX2) (T := TX2) (N := 10) X hW (by omega) h0 rfl lk_0 0 (by decide) lk_3 rfl dX2_follow_36 ?_
        refine lv_iload_n X.1 X.2.1 dX2_follow_39 rfl (lv_at hl 2 rfl) ?_
        refine x_seti ((t : Int)) (by omega) ?_
        refine x_cr (x_runV (k := 1) (As := [.int (iI ((t : Int)))]) (rest := []) X hW (c_X3_at l E A n _ gw (i + 1) cz bc t (by omega) hC hk9) (by omega) hc0 rfl gX2_follow_X3_at rfl rfl rfl (by decide +kernel) ⟨by decide, by decide⟩ rfl hl.1 rfl (Nat.le_of_ble_eq_true rfl) dX2_follow_40 ⟨Nat.zero_le _, Nat.zero_le _⟩) hW (fun j_40 g_40 H locs hp_40 hW => ?_)
        have hj_40 : j_40 = bc t := hp_40.1
        have he_40 : g_40 = gw := hp_40.2
        rw [he_40] at hW
        subst hj_40
        obtain ⟨hbn, hbv⟩ := hB t hk9
        have hbx_40 := hbv
        obtain ⟨bz_40, wo_40, we_40, tot_40, hbc_40, _⟩ := hbx_40
        have hbo_40 := hbc_40.1
        refine lv_astore_n (lv' := [(3, .ref (A (bc t))), (0, .ref (A (i))), (1, .ref (A (ba))), (2, .int (iI ((k : Int) - 1)))]) X.1 X.2.1 dX2_follow_43 rfl hl (by decide) rfl (fun ls hl => ?_)
        refine lv_aload_n X.1 X.2.1 dX2_follow_44 rfl (lv_at hl 1 rfl) ?_
        refine x_get (C := RX2) (T := TX2) (N := 10) X hW (by omega) h0 rfl lk_0 5 (by decide) lk_1 rfl dX2_follow_45 ?_
        refine lv_aload_n X.1 X.2.1 dX2_follow_48 rfl (lv_at hl 0 rfl) ?_
        refine lv_aload_n X.1 X.2.1 dX2_follow_49 rfl (lv_at hl 2 rfl) ?_
        refine lv_iload_n X.1 X.2.1 dX2_follow_50 rfl (lv_at hl 3 rfl) ?_
        refine x_iald X hW (by omega) hb0 (v := iI (((br t : Nat) : Int))) t (by omega) (by omega) (by decide) hbt.2 dX2_follow_51 ?_
        refine x_ci (x_runV (k := 1) (As := [.int (iI (((br t : Nat) : Int)))]) (rest := [.ref (A (i + 10))]) X hW (c_X0_below l E A n _ gw (bc t) (Lk t) ((br t : Nat) : Int) hbn hbv ⟨by omega, by omega⟩) (by omega) hbo_40 rfl gX2_follow_X0_below rfl rfl rfl (by decide +kernel) ⟨by decide, by decide⟩ rfl hl.1 rfl (Nat.le_of_ble_eq_true rfl) dX2_follow_52 ⟨Nat.zero_le _, Nat.zero_le _⟩) hW (fun r_52 g_52 H locs hp_52 hW => ?_)
        obtain ⟨hr_52, he_52⟩ := hp_52
        rw [he_52] at hW
        subst hr_52
        refine x_i2l X ⟨by omega, by omega⟩ dX2_follow_55 ?_
        refine x_cv (x_runV (k := 1) (As := [.long (lI (((bBelow (Lk t) ((br t : Nat) : Int) : Nat) : Int)))]) (rest := []) X hW (c_X5_times l E A n _ gw (i + 10) (foM Lk br cz (cz - k)) (bBelow (Lk t) ((br t : Nat) : Int)) (by omega) n_10 (by omega) (by omega)) (by omega) n_10.2.1 rfl gX2_follow_X5_times rfl rfl rfl (by decide +kernel) ⟨by decide, by decide⟩ rfl hl.1 rfl (Nat.le_of_ble_eq_true rfl) dX2_follow_56 ⟨Nat.zero_le _, Nat.zero_le _⟩) hW (fun g_56 H locs hp_56 hW => ?_)
        obtain ⟨nv_56, hf_56⟩ := hp_56
        have h0 : g_56 i = .inr (2, [.ref (A (i + 1)), .ref (A (i + 6)), .ref (A (i + 7)), .ref (A (i + 8)), .ref (A (i + 9)), .ref (A (i + 10)), .ref (A (i + 12)), .ref (A (i + 14)), .ref (A (i + 16)), .ref (A (i + 18))]) := by rw [hf_56 _ (by omega)]; exact h0
        have hc0 : g_56 (i + 1) = .inr (3, [.ref (A (i + 1 + 1)), .ref (A (i + 1 + 4)), .int (iI ((cz : Int)))]) := by rw [hf_56 _ (by omega)]; exact hc0
        have hb0 : g_56 ba = aI E 10 fb := by rw [hf_56 _ (by omega)]; exact hb0
        have hbo_40 : g_56 (bc t) = .inr (0, [.ref (A (bc t + 1)), .ref (A (bc t + 2)), .int (iI ((bz_40 : Int))), .int (iI ((tot_40 : Int)))]) := by rw [hf_56 _ (by omega)]; exact hbo_40
        have n_12 : NatV E A g_56 (i + 12) (foA Lk cz (cz - k)) := n_12.frame (hf_56 _ (by omega)) (hf_56 _ (by omega))
        have n_10 : NatV E A g_56 (i + 10) (foM Lk br cz (cz - k) * bBelow (Lk t) ((br t : Nat) : Int)) := nv_56
        have hfr : ∀ j, (j ≠ i + 11 ∧ j ≠ i + 13) → g_56 j = g j := fun j hj => (hf_56 j (by omega)).trans (hfr j hj)
        have hbv := hbv.frame (hf_56 _ (by omega)) (hf_56 _ (by omega)) (hf_56 _ (by omega))
        refine lv_aload_n X.1 X.2.1 dX2_follow_59 rfl (lv_at hl 1 rfl) ?_
        refine x_get (C := RX2) (T := TX2) (N := 10) X hW (by omega) h0 rfl lk_0 5 (by decide) lk_1 rfl dX2_follow_60 ?_
        refine lv_aload_n X.1 X.2.1 dX2_follow_63 rfl (lv_at hl 1 rfl) ?_
        refine x_get (C := RX2) (T := TX2) (N := 10) X hW (by omega) h0 rfl lk_0 6 (by decide) lk_2 rfl dX2_follow_64 ?_
        refine lv_aload_n X.1 X.2.1 dX2_follow_67 rfl (lv_at hl 0 rfl) ?_
        refine lv_aload_n X.1 X.2.1 dX2_follow_68 rfl (lv_at hl 2 rfl) ?_
        refine lv_iload_n X.1 X.2.1 dX2_follow_69 rfl (lv_at hl 3 rfl) ?_
        refine x_iald X hW (by omega) hb0 (v := iI (((br t : Nat) : Int))) t (by omega) (by omega) (by decide) hbt.2 dX2_follow_70 ?_
        refine x_ci (x_runV (k := 1) (As := [.int (iI (((br t : Nat) : Int)))]) (rest := [.ref (A (i + 12)), .ref (A (i + 10))]) X hW (c_X0_gathered l E A n _ g_56 (bc t) (Lk t) ((br t : Nat) : Int) hbn hbv ⟨by omega, by omega⟩) (by omega) hbo_40 rfl gX2_follow_X0_gathered rfl rfl rfl (by decide +kernel) ⟨by decide, by decide⟩ rfl hl.1 rfl (Nat.le_of_ble_eq_true rfl) dX2_follow_71 ⟨Nat.zero_le _, Nat.zero_le _⟩) hW (fun r_71 g_71 H locs hp_71 hW => ?_)
        obtain ⟨hr_71, he_71⟩ := hp_71
        rw [he_71] at hW
        subst hr_71
        refine x_i2l X ⟨by omega, by omega⟩ dX2_follow_74 ?_
        refine x_cv (x_runV (k := 2) (As := [.ref (A (i + 12)), .long (lI (((bGath (Lk t) ((br t : Nat) : Int) : Nat) : Int)))]) (rest := []) X hW (c_X5_addTimes l E A n _ g_56 (i + 10) (i + 12) (foM Lk br cz (cz - k) * bBelow (Lk t) ((br t : Nat) : Int)) (foA Lk cz (cz - k)) (bGath (Lk t) ((br t : Nat) : Int)) (by omega) (by omega) (by omega) (by omega) (by omega) n_10 n_12 (by omega) (by omega)) (by omega) n_10.2.1 rfl gX2_follow_X5_addTimes rfl rfl rfl (by decide +kernel) ⟨by decide, by decide⟩ rfl hl.1 rfl (Nat.le_of_ble_eq_true rfl) dX2_follow_75 ⟨Nat.zero_le _, Nat.zero_le _⟩) hW (fun g_75 H locs hp_75 hW => ?_)
        obtain ⟨nv_75, hf_75⟩ := hp_75
        have h0 : g_75 i = .inr (2, [.ref (A (i + 1)), .ref (A (i + 6)), .ref (A (i + 7)), .ref (A (i + 8)), .ref (A (i + 9)), .ref (A (i + 10)), .ref (A (i + 12)), .ref (A (i + 14)), .ref (A (i + 16)), .ref (A (i + 18))]) := by rw [hf_75 _ (by omega)]; exact h0
        have hc0 : g_75 (i + 1) = .inr (3, [.ref (A (i + 1 + 1)), .ref (A (i + 1 + 4)), .int (iI ((cz : Int)))]) := by rw [hf_75 _ (by omega)]; exact hc0
        have hb0 : g_75 ba = aI E 10 fb := by rw [hf_75 _ (by omega)]; exact hb0
        have hbo_40 : g_75 (bc t) = .inr (0, [.ref (A (bc t + 1)), .ref (A (bc t + 2)), .int (iI ((bz_40 : Int))), .int (iI ((tot_40 : Int)))]) := by rw [hf_75 _ (by omega)]; exact hbo_40
        have n_12 : NatV E A g_75 (i + 12) (foA Lk cz (cz - k)) := n_12.frame (hf_75 _ (by omega)) (hf_75 _ (by omega))
        have n_10 : NatV E A g_75 (i + 10) (foM Lk br cz (cz - k) * bBelow (Lk t) ((br t : Nat) : Int) + foA Lk cz (cz - k) * bGath (Lk t) ((br t : Nat) : Int)) := nv_75
        have hfr : ∀ j, (j ≠ i + 11 ∧ j ≠ i + 13) → g_75 j = g j := fun j hj => (hf_75 j (by omega)).trans (hfr j hj)
        have hbv := hbv.frame (hf_75 _ (by omega)) (hf_75 _ (by omega)) (hf_75 _ (by omega))
        refine lv_aload_n X.1 X.2.1 dX2_follow_78 rfl (lv_at hl 1 rfl) ?_
        refine x_get (C := RX2) (T := TX2) (N := 10) X hW (by omega) h0 rfl lk_0 6 (by decide) lk_2 rfl dX2_follow_79 ?_
        refine lv_aload_n X.1 X.2.1 dX2_follow_82 rfl (lv_at hl 0 rfl) ?_
        refine x_ci (x_runV (k := 0) (As := []) (rest := [.ref (A (i + 12))]) X hW (c_X0_total l E A n _ g_75 (bc t) (Lk t) hbn hbv) (by omega) hbo_40 rfl gX2_follow_X0_total rfl rfl rfl (by decide +kernel) ⟨by decide, by decide⟩ rfl hl.1 rfl (Nat.le_of_ble_eq_true rfl) dX2_follow_83 ⟨Nat.zero_le _, Nat.zero_le _⟩) hW (fun r_83 g_83 H locs hp_83 hW => ?_)
        obtain ⟨hr_83, he_83⟩ := hp_83
        rw [he_83] at hW
        subst hr_83
        refine x_i2l X ⟨by omega, by omega⟩ dX2_follow_86 ?_
        refine x_cv (x_runV (k := 1) (As := [.long (lI (((bE (Lk t) (fun _ => 1) : Nat) : Int)))]) (rest := []) X hW (c_X5_times l E A n _ g_75 (i + 12) (foA Lk cz (cz - k)) (bE (Lk t) (fun _ => 1)) (by omega) n_12 (by omega) (by omega)) (by omega) n_12.2.1 rfl gX2_follow_X5_times rfl rfl rfl (by decide +kernel) ⟨by decide, by decide⟩ rfl hl.1 rfl (Nat.le_of_ble_eq_true rfl) dX2_follow_87 ⟨Nat.zero_le _, Nat.zero_le _⟩) hW (fun g_87 H locs hp_87 hW => ?_)
        obtain ⟨nv_87, hf_87⟩ := hp_87
        have h0 : g_87 i = .inr (2, [.ref (A (i + 1)), .ref (A (i + 6)), .ref (A (i + 7)), .ref (A (i + 8)), .ref (A (i + 9)), .ref (A (i + 10)), .ref (A (i + 12)), .ref (A (i + 14)), .ref (A (i + 16)), .ref (A (i + 18))]) := by rw [hf_87 _ (by omega)]; exact h0
        have hc0 : g_87 (i + 1) = .inr (3, [.ref (A (i + 1 + 1)), .ref (A (i + 1 + 4)), .int (iI ((cz : Int)))]) := by rw [hf_87 _ (by omega)]; exact hc0
        have hb0 : g_87 ba = aI E 10 fb := by rw [hf_87 _ (by omega)]; exact hb0
        have hbo_40 : g_87 (bc t) = .inr (0, [.ref (A (bc t + 1)), .ref (A (bc t + 2)), .int (iI ((bz_40 : Int))), .int (iI ((tot_40 : Int)))]) := by rw [hf_87 _ (by omega)]; exact hbo_40
        have n_10 : NatV E A g_87 (i + 10) (foM Lk br cz (cz - k) * bBelow (Lk t) ((br t : Nat) : Int) + foA Lk cz (cz - k) * bGath (Lk t) ((br t : Nat) : Int)) := n_10.frame (hf_87 _ (by omega)) (hf_87 _ (by omega))
        have n_12 : NatV E A g_87 (i + 12) (foA Lk cz (cz - k) * bE (Lk t) (fun _ => 1)) := nv_87
        have hfr : ∀ j, (j ≠ i + 11 ∧ j ≠ i + 13) → g_87 j = g j := fun j hj => (hf_87 j (by omega)).trans (hfr j hj)
        refine lv_iinc (v := iI ((t : Int) - 1)) (lv' := [(2, .int (iI ((t : Int) - 1))), (3, .ref (A (bc t))), (0, .ref (A (i))), (1, .ref (A (ba)))]) X.1 X.2.1 dX2_follow_90 hl (k := 3) rfl (by rw [show (Int32.ofInt (-1)) = iI (-1) from rfl, iI_add]; congr 1; omega) (by decide) rfl (fun ls hl => ?_)
        refine lv_goto (tgt := 31) X.1 X.2.1 dX2_follow_93 (by decide) ?_
        exact ih_31 t g_87 _ _ _ (by omega) (by omega) (by rw [hst1]; exact n_10) (by rw [hst2]; exact n_12) hfr hW (lv_sub hl [2, 3, 0] rfl)
  exact loop_31 _ cz g_13 _ _ _ (Nat.lt_succ_self _) (Nat.le_refl _) (by rw [Nat.sub_self]; exact n_10) (by rw [Nat.sub_self]; exact n_12) hfr hW (lv_sub hl [1, 2, 0] rfl)
