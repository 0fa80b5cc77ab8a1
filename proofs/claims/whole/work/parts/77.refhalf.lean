/-! ===== the reference: foresight, half ===== -/
theorem bE_mono {L : List (Nat × Nat)} {f h : Nat → Nat} (e : ∀ x, f x ≤ h x) : bE L f ≤ bE L h := by
  induction L with
  | nil => exact Nat.le_refl _
  | cons q L ih =>
    show q.2 * f q.1 + bE L f ≤ q.2 * h q.1 + bE L h
    exact Nat.add_le_add (Nat.mul_le_mul_left _ (e _)) ih
theorem below_tot (L : List (Nat × Nat)) (b : Int) : bBelow L b ≤ bE L (fun _ => 1) := bE_mono (fun x => by split <;> omega)
theorem pr_mono {f h : Nat → Nat} (k : Nat) (e : ∀ j, j < k → f j ≤ h j) : pr f k ≤ pr h k := by
  induction k with
  | zero => exact Nat.le_refl _
  | succ k ih => exact Nat.mul_le_mul (ih (fun j hj => e j (by omega))) (e k (by omega))
def prT (Lk : Nat → List (Nat × Nat)) (cz : Nat) : Nat := pr (fun k => bE (Lk k) (fun _ => 1)) cz
def prB (Lk : Nat → List (Nat × Nat)) (b : Int) (cz : Nat) : Nat := pr (fun k => bBelow (Lk k) b) cz
theorem prB_le (Lk : Nat → List (Nat × Nat)) (b : Int) (cz : Nat) : prB Lk b cz ≤ prT Lk cz := pr_mono cz (fun j _ => below_tot _ _)
theorem prT_le {Lk : Nat → List (Nat × Nat)} {cz : Nat} (h : ∀ k, k < cz → bE (Lk k) (fun _ => 1) ≤ 8000) : ∀ k, k ≤ cz → prT Lk k ≤ 8000 ^ k := fun k hk => pr_le k (fun j hj => h j (by omega))
/-- what one who sees all has, as the sum of what lies above each height -/
def foS (Lk : Nat → List (Nat × Nat)) (cz T : Nat) : Nat := sm (fun x => prT Lk cz - prB Lk ((x + 1 : Nat) : Int) cz) T
theorem foS_succ (Lk : Nat → List (Nat × Nat)) (cz T : Nat) : foS Lk cz (T + 1) = foS Lk cz T + (prT Lk cz - prB Lk ((T + 1 : Nat) : Int) cz) := rfl
theorem foS_le (Lk : Nat → List (Nat × Nat)) (cz : Nat) : ∀ T, foS Lk cz T ≤ T * prT Lk cz := by
  intro T
  induction T with
  | zero => exact Nat.zero_le _
  | succ T ih => rw [foS_succ, Nat.add_mul, Nat.one_mul]; omega
theorem foS_none {Lk : Nat → List (Nat × Nat)} : ∀ T, foS Lk 0 T = 0 := by
  intro T
  induction T with
  | zero => rfl
  | succ T ih => rw [foS_succ, ih]; rfl
theorem lwB_some (br : Nat → Nat) (b : Nat) : lwB br (b : Int) = fun _ => b := by
  funext k
  unfold lwB
  rw [if_neg (by omega)]
  omega
theorem foA_pr (Lk : Nat → List (Nat × Nat)) (cz : Nat) : foA Lk cz cz = prT Lk cz := by
  have key : ∀ d, d ≤ cz → foA Lk cz d * prT Lk (cz - d) = prT Lk cz := by
    intro d
    induction d with
    | zero => intro _; show 1 * _ = _; rw [Nat.one_mul]; rfl
    | succ d ih =>
      intro hd
      rw [← ih (by omega)]
      obtain ⟨t, ht⟩ : ∃ t, cz - d = t + 1 := ⟨cz - d - 1, by omega⟩
      rw [ht, show cz - (d + 1) = t from by omega]
      show foA Lk cz d * bE (Lk (cz - 1 - d)) (fun _ => 1) * prT Lk t = foA Lk cz d * (prT Lk t * bE (Lk t) (fun _ => 1))
      rw [show cz - 1 - d = t from by omega, Nat.mul_assoc, Nat.mul_comm (prT Lk t)]
  have e := key cz (Nat.le_refl _)
  rw [Nat.sub_self] at e
  rw [← e]
  show _ = _ * 1
  rw [Nat.mul_one]

set_option maxHeartbeats 4000000 in
set_option maxRecDepth 100000 in
/-- foresees -/
theorem c_X11_foresees (l : Launch) (E : wE) (A : Nat → Nat) (n sz : Nat) (g : Nat → va_E) (i : Nat) (q : Nat → Int) (N : Nat → Int) (bk : Nat) (L : Nat → List (Nat × Nat)) (cz : Nat) (co br : Nat → Nat) (hi : i + 16 < n) (hO : g i = mO A i q) (hN : MN E A g i N) (hB : BooksM E A g i bk L) (hq1 : q 1 = (cz : Int)) (hC : ComM E A g i bk cz co br) : Met l yX11_foresees wsX11_foresees ({ frames := 4, cells := 0, slots := 0, locals := 160 } : Room) (va_Pc [.ref (A (i))] (wPre E A n sz g)) (va_Qv (fun g' => (∃ N' : Nat → Int, MN E A g' i N' ∧ N' 4 = ((foS (LkM L co) cz 1000 : Nat) : Int) ∧ N' 5 = ((prT (LkM L co) cz : Nat) : Int) ∧ ∀ x, (x ≠ 4 ∧ x ≠ 5 ∧ x ≠ 6) → N' x = N x) ∧ ∀ j, j ≠ i + 1 → g' j = g j) (wAt E A n) (wF A n sz)) 0 0 (wF A n sz) := by
  refine x_met (cc := cX11_foresees) (maxL := 3) (ret := none) [.ref (A (i))] (by decide) rfl (Nat.le_of_ble_eq_true rfl) ?_
  intro p_ e_ s_ m_ below meth c_ ls X hr hlk hnm hsz hW hl
  have hl : lv_has ls 3 [(0, .ref (A (i)))] := hl
  have lk_0 : ∀ w ∈ wsX110, w ∈ wsX11_foresees := by decide +kernel
  have lk_1 : Cond.fieldLink RX11 127 (TX11 9).1 (TX11 9).2.1 (TX11 9).2.2.1 ∈ wsX11_foresees := by decide +kernel
  have lk_2 : Cond.constantLong RX11 91 (-1) ∈ wsX11_foresees := by decide +kernel
  have lk_3 : Cond.fieldLink RX11 36 (TX11 10).1 (TX11 10).2.1 (TX11 10).2.2.1 ∈ wsX11_foresees := by decide +kernel
  have lk_4 : Cond.fieldLink RX11 33 (TX11 8).1 (TX11 8).2.1 (TX11 8).2.2.1 ∈ wsX11_foresees := by decide +kernel
  have hO : g i = .inr (11, [.ref (A (i + 1)), .ref (A (i + 2)), .ref (A (i + 3)), .ref (A (i + 4)), .int (iI (q 0)), .ref (A (i + 5)), .ref (A (i + 6)), .ref (A (i + 7)), .ref (A (i + 8)), .int (iI (q 1)), .ref (A (i + 9)), .ref (A (i + 10)), .ref (A (i + 11)), .int (iI (q 2)), .ref (A (i + 12)), .ref (A (i + 13)), .int (iI (q 3)), .ref (A (i + 14)), .ref (A (i + 15)), .ref (A (i + 16)), .int (iI (q 4))]) := hO
  have hOg := hO
  have hfr : ∀ j, j ≠ i + 1 → g j = g j := fun _ _ => rfl
  have hoth : ∀ x, (x ≠ 4 ∧ x ≠ 5 ∧ x ≠ 6) → N x = N x := fun _ _ => rfl
  have hBo := hB
  obtain ⟨f5, f6, f7, f8, h5, h6, h7, h8, hbk, hbv⟩ := id hB
  have h5o := h5
  have h6o := h6
  have h7o := h7
  have h8o := h8
  have hCo := hC
  obtain ⟨f9, f10, h9, h10, hc10, hcv⟩ := id hC
  have h9o := h9
  have h10o := h10
  have hok0 : ∀ k, k < cz → bOK (LkM L co k) := fun k hk => by
    have hk2 := (hcv k hk).1
    exact ⟨(hbv _ hk2).1, fun u hu => ((hbv _ hk2).2.2.2.2 u hu).2.2⟩
  have hcap0 : ∀ k, k < cz → bE (LkM L co k) (fun _ => 1) ≤ 8000 ∧ (∀ b : Int, bBelow (LkM L co k) b ≤ 8000) ∧ ∀ b : Int, bGath (LkM L co k) b ≤ 8000000 := fun k hk => ⟨bOK_tot (hok0 k hk), fun b => bOK_below (hok0 k hk) b, fun b => bOK_gath (hok0 k hk) b⟩
  have hpos0 : ∀ k, k < cz → 0 < bE (LkM L co k) (fun _ => 1) := fun k hk => (hbv _ (hcv k hk).1).2.2.2.1
  have hpc := pow_cap hc10
  have hP := prT_le (fun k hk => (hcap0 k hk).1) cz (Nat.le_refl _)
  refine lv_aload_n X.1 X.2.1 dX11_foresees_0 rfl (lv_at hl 0 rfl) ?_
  refine x_iconst X dX11_foresees_1 ?_
  refine x_lconst X 0 (by decide) dX11_foresees_2 ?_
  refine x_cv (x_runV (k := 2) (As := [.int (iI (4)), .long (lI (0))]) (rest := []) X hW (c_X11_set l E A n _ g i (4) q N (0) hi hO (by omega) hN (by decide) (by decide)) (by omega) hO rfl gX11_foresees_X11_set rfl rfl rfl (by decide +kernel) ⟨by decide, by decide⟩ rfl hl.1 rfl (Nat.le_of_ble_eq_true rfl) dX11_foresees_3 ⟨Nat.zero_le _, Nat.zero_le _⟩) hW (fun g_3 H locs hp_3 hW => ?_)
  obtain ⟨hN, hf_3⟩ := hp_3
  obtain ⟨N_3, hN_3⟩ : ∃ N9 : Nat → Int, N9 = va_up N 4 (0) := ⟨_, rfl⟩
  rw [← hN_3] at hN
  have hO : g_3 i = .inr (11, [.ref (A (i + 1)), .ref (A (i + 2)), .ref (A (i + 3)), .ref (A (i + 4)), .int (iI (q 0)), .ref (A (i + 5)), .ref (A (i + 6)), .ref (A (i + 7)), .ref (A (i + 8)), .int (iI (q 1)), .ref (A (i + 9)), .ref (A (i + 10)), .ref (A (i + 11)), .int (iI (q 2)), .ref (A (i + 12)), .ref (A (i + 13)), .int (iI (q 3)), .ref (A (i + 14)), .ref (A (i + 15)), .ref (A (i + 16)), .int (iI (q 4))]) := by rw [hf_3 _ (by omega)]; exact hO
  have h5 : g_3 (i + 5) = aI E 16 f5 := by rw [hf_3 _ (by omega)]; exact h5
  have h6 : g_3 (i + 6) = aI E 128 f6 := by rw [hf_3 _ (by omega)]; exact h6
  have h7 : g_3 (i + 7) = aI E 128 f7 := by rw [hf_3 _ (by omega)]; exact h7
  have h8 : g_3 (i + 8) = aI E 16 f8 := by rw [hf_3 _ (by omega)]; exact h8
  have h9 : g_3 (i + 9) = aI E 10 f9 := by rw [hf_3 _ (by omega)]; exact h9
  have h10 : g_3 (i + 10) = aI E 10 f10 := by rw [hf_3 _ (by omega)]; exact h10
  have v_4 : N_3 4 = 0 := by rw [hN_3, va_up_self]
  have hoth : ∀ x, (x ≠ 4 ∧ x ≠ 5 ∧ x ≠ 6) → N_3 x = N x := fun x hx => (congrFun hN_3 x).trans ((va_up_ne _ _ (by omega)).trans (hoth x hx))
  have hfr : ∀ j, j ≠ i + 1 → g_3 j = g j := fun j hj => (hf_3 j hj).trans (hfr j hj)
  refine lv_aload_n X.1 X.2.1 dX11_foresees_6 rfl (lv_at hl 0 rfl) ?_
  refine x_iconst X dX11_foresees_7 ?_
  refine x_lconst X 1 (by decide) dX11_foresees_8 ?_
  refine x_cv (x_runV (k := 2) (As := [.int (iI (5)), .long (lI (1))]) (rest := []) X hW (c_X11_set l E A n _ g_3 i (5) q N_3 (1) hi hO (by omega) hN (by decide) (by decide)) (by omega) hO rfl gX11_foresees_X11_set rfl rfl rfl (by decide +kernel) ⟨by decide, by decide⟩ rfl hl.1 rfl (Nat.le_of_ble_eq_true rfl) dX11_foresees_9 ⟨Nat.zero_le _, Nat.zero_le _⟩) hW (fun g_9 H locs hp_9 hW => ?_)
  obtain ⟨hN, hf_9⟩ := hp_9
  obtain ⟨N_9, hN_9⟩ : ∃ N9 : Nat → Int, N9 = va_up N_3 5 (1) := ⟨_, rfl⟩
  rw [← hN_9] at hN
  have hO : g_9 i = .inr (11, [.ref (A (i + 1)), .ref (A (i + 2)), .ref (A (i + 3)), .ref (A (i + 4)), .int (iI (q 0)), .ref (A (i + 5)), .ref (A (i + 6)), .ref (A (i + 7)), .ref (A (i + 8)), .int (iI (q 1)), .ref (A (i + 9)), .ref (A (i + 10)), .ref (A (i + 11)), .int (iI (q 2)), .ref (A (i + 12)), .ref (A (i + 13)), .int (iI (q 3)), .ref (A (i + 14)), .ref (A (i + 15)), .ref (A (i + 16)), .int (iI (q 4))]) := by rw [hf_9 _ (by omega)]; exact hO
  have h5 : g_9 (i + 5) = aI E 16 f5 := by rw [hf_9 _ (by omega)]; exact h5
  have h6 : g_9 (i + 6) = aI E 128 f6 := by rw [hf_9 _ (by omega)]; exact h6
  have h7 : g_9 (i + 7) = aI E 128 f7 := by rw [hf_9 _ (by omega)]; exact h7
  have h8 : g_9 (i + 8) = aI E 16 f8 := by rw [hf_9 _ (by omega)]; exact h8
  have h9 : g_9 (i + 9) = aI E 10 f9 := by rw [hf_9 _ (by omega)]; exact h9
  have h10 : g_9 (i + 10) = aI E 10 f10 := by rw [hf_9 _ (by omega)]; exact h10
  have v_5 : N_9 5 = 1 := by rw [hN_9, va_up_self]
  have v_4 : N_9 4 = 0 := by rw [hN_9, va_up_ne _ _ (by omega)]; exact v_4
  have hoth : ∀ x, (x ≠ 4 ∧ x ≠ 5 ∧ x ≠ 6) → N_9 x = N x := fun x hx => (congrFun hN_9 x).trans ((va_up_ne _ _ (by omega)).trans (hoth x hx))
  have hfr : ∀ j, j ≠ i + 1 → g_9 j = g j := fun j hj => (hf_9 j hj).trans (hfr j hj)
  refine x_iconst X dX11_foresees_12 ?_
  refine x_seti (((0 : Nat) : Int)) rfl ?_
  refine lv_istore_n (lv' := [(1, .int (iI (((0 : Nat) : Int)))), (0, .ref (A (i)))]) X.1 X.2.1 dX11_foresees_13 rfl hl (by decide) rfl (fun ls hl => ?_)
  have loop_14 : ∀ (fuel : Nat) (k : Nat) (N1 : Nat → Int) (g1 : Nat → va_E) (H : Heap) (locs : List Loc) (ls : Array Slot), (cz - k) < fuel → (k ≤ cz) → (MN E A g1 i N1) → (N1 4 = 0) → (N1 5 = ((prT (LkM L co) k : Nat) : Int)) → (∀ x, (x ≠ 4 ∧ x ≠ 5 ∧ x ≠ 6) → N1 x = N x) → (∀ j, j ≠ i + 1 → g1 j = g j) → wH E (wF A n sz) A n s_ g1 H locs → lv_has ls 3 [(0, .ref (A (i))), (1, .int (iI (((k : Nat) : Int))))] → W p_ l e_ ({ frames := 4, cells := 0, slots := 0, locals := 160 } : Room) s_ m_ [.ref (A (i))].toArray below meth c_ H locs 0 0 (MQ below (va_Qv (fun g' => (∃ N' : Nat → Int, MN E A g' i N' ∧ N' 4 = ((foS (LkM L co) cz 1000 : Nat) : Int) ∧ N' 5 = ((prT (LkM L co) cz : Nat) : Int) ∧ ∀ x, (x ≠ 4 ∧ x ≠ 5 ∧ x ≠ 6) → N' x = N x) ∧ ∀ j, j ≠ i + 1 → g' j = g j) (wAt E A n) (wF A n sz)) [.ref (A (i))].toArray s_ 0 0 (wF A n sz)) (F0 m_ 14 ls []) := by
    intro fuel
    induction fuel with
    | zero => intro k N1 g1 H locs ls hm; exact absurd hm (Nat.not_lt_zero _)
    | succ fuel ih_14 =>
      intro k N1 g1 H locs ls hm hk hN v_4 v_5 hoth hfr hW hl
      have hO : g1 i = .inr (11, [.ref (A (i + 1)), .ref (A (i + 2)), .ref (A (i + 3)), .ref (A (i + 4)), .int (iI (q 0)), .ref (A (i + 5)), .ref (A (i + 6)), .ref (A (i + 7)), .ref (A (i + 8)), .int (iI (q 1)), .ref (A (i + 9)), .ref (A (i + 10)), .ref (A (i + 11)), .int (iI (q 2)), .ref (A (i + 12)), .ref (A (i + 13)), .int (iI (q 3)), .ref (A (i + 14)), .ref (A (i + 15)), .ref (A (i + 16)), .int (iI (q 4))]) := (hfr _ (by omega)).trans hOg
      have h5 : g1 (i + 5) = aI E 16 f5 := (hfr _ (by omega)).trans h5o
      have h6 : g1 (i + 6) = aI E 128 f6 := (hfr _ (by omega)).trans h6o
      have h7 : g1 (i + 7) = aI E 128 f7 := (hfr _ (by omega)).trans h7o
      have h8 : g1 (i + 8) = aI E 16 f8 := (hfr _ (by omega)).trans h8o
      have h9 : g1 (i + 9) = aI E 10 f9 := (hfr _ (by omega)).trans h9o
      have h10 : g1 (i + 10) = aI E 10 f10 := (hfr _ (by omega)).trans h10o
      refine lv_iload_n X.1 X.2.1 dX11_foresees_14 rfl (lv_at hl 1 rfl) ?_
      refine lv_aload_n X.1 X.2.1 dX11_foresees_15 rfl (lv_at hl 0 rfl) ?_
      refine x_get (C := RX11) (T := TX11) (N := 21) X hW (by omega) hO rfl lk_0 9 (by decide) lk_1 rfl dX11_foresees_16 ?_
      refine x_seti ((cz : Int)) hq1 ?_
      refine x_icmp_ge (tgt := 45) X ⟨by omega, by omega⟩ ⟨by omega, by omega⟩ dX11_foresees_19 (by decide) (fun b_19 => ?_) (fun b_19 => ?_)
      · rw [show k = cz from by omega] at v_5
        refine x_iconst X dX11_foresees_45 ?_
        refine x_seti (((0 + 1 : Nat) : Int)) rfl ?_
        refine lv_istore_n (lv' := [(1, .int (iI (((0 + 1 : Nat) : Int)))), (0, .ref (A (i)))]) X.1 X.2.1 dX11_foresees_46 rfl hl (by decide) rfl (fun ls hl => ?_)
        have loop_47 : ∀ (fuel : Nat) (x : Nat) (N2 : Nat → Int) (g2 : Nat → va_E) (H : Heap) (locs : List Loc) (ls : Array Slot), (1000 - x) < fuel → (x ≤ 1000) → (MN E A g2 i N2) → (N2 4 = ((foS (LkM L co) cz x : Nat) : Int)) → (N2 5 = ((prT (LkM L co) cz : Nat) : Int)) → (∀ x, (x ≠ 4 ∧ x ≠ 5 ∧ x ≠ 6) → N2 x = N x) → (∀ j, j ≠ i + 1 → g2 j = g j) → wH E (wF A n sz) A n s_ g2 H locs → lv_has ls 3 [(0, .ref (A (i))), (1, .int (iI (((x + 1 : Nat) : Int))))] → W p_ l e_ ({ frames := 4, cells := 0, slots := 0, locals := 160 } : Room) s_ m_ [.ref (A (i))].toArray below meth c_ H locs 0 0 (MQ below (va_Qv (fun g' => (∃ N' : Nat → Int, MN E A g' i N' ∧ N' 4 = ((foS (LkM L co) cz 1000 : Nat) : Int) ∧ N' 5 = ((prT (LkM L co) cz : Nat) : Int) ∧ ∀ x, (x ≠ 4 ∧ x ≠ 5 ∧ x ≠ 6) → N' x = N x) ∧ ∀ j, j ≠ i + 1 → g' j = g j) (wAt E A n) (wF A n sz)) [.ref (A (i))].toArray s_ 0 0 (wF A n sz)) (F0 m_ 47 ls []) := by
          intro fuel
          induction fuel with
          | zero => intro x N2 g2 H locs ls hm; exact absurd hm (Nat.not_lt_zero _)
          | succ fuel ih_47 =>
            intro x N2 g2 H locs ls hm hx hN v_4 v_5 hoth hfr hW hl
            have hO : g2 i = .inr (11, [.ref (A (i + 1)), .ref (A (i + 2)), .ref (A (i + 3)), .ref (A (i + 4)), .int (iI (q 0)), .ref (A (i + 5)), .ref (A (i + 6)), .ref (A (i + 7)), .ref (A (i + 8)), .int (iI (q 1)), .ref (A (i + 9)), .ref (A (i + 10)), .ref (A (i + 11)), .int (iI (q 2)), .ref (A (i + 12)), .ref (A (i + 13)), .int (iI (q 3)), .ref (A (i + 14)), .ref (A (i + 15)), .ref (A (i + 16)), .int (iI (q 4))]) := (hfr _ (by omega)).trans hOg
            have h5 : g2 (i + 5) = aI E 16 f5 := (hfr _ (by omega)).trans h5o
            have h6 : g2 (i + 6) = aI E 128 f6 := (hfr _ (by omega)).trans h6o
            have h7 : g2 (i + 7) = aI E 128 f7 := (hfr _ (by omega)).trans h7o
            have h8 : g2 (i + 8) = aI E 16 f8 := (hfr _ (by omega)).trans h8o
            have h9 : g2 (i + 9) = aI E 10 f9 := (hfr _ (by omega)).trans h9o
            have h10 : g2 (i + 10) = aI E 10 f10 := (hfr _ (by omega)).trans h10o
            refine lv_iload_n X.1 X.2.1 dX11_foresees_47 rfl (lv_at hl 1 rfl) ?_
            refine x_sipush X (by decide) dX11_foresees_48 ?_
            refine x_icmp_gt (tgt := 128) X ⟨by omega, by omega⟩ ⟨by decide, by decide⟩ dX11_foresees_51 (by decide) (fun b_51 => ?_) (fun b_51 => ?_)
            · exact x_vret X hr hlk hW (⟨⟨N2, hN, by first | (rw [v_4, show x = 1000 from by omega]) | (rw [v_4, show cz = 0 from by omega, foS_none, foS_none]), v_5, hoth⟩, hfr⟩) dX11_foresees_128
            · have hS := foS_le (LkM L co) cz x
              have hS1 := foS_le (LkM L co) cz (x + 1)
              have hx9 : x * prT (LkM L co) cz ≤ 1000 * prT (LkM L co) cz := Nat.mul_le_mul_right _ (by omega)
              have hx8 : (x + 1) * prT (LkM L co) cz ≤ 1000 * prT (LkM L co) cz := Nat.mul_le_mul_right _ (by omega)
              refine lv_aload_n X.1 X.2.1 dX11_foresees_54 rfl (lv_at hl 0 rfl) ?_
              refine x_get (C := RX11) (T := TX11) (N := 21) X hW (by omega) hO rfl lk_0 9 (by decide) lk_1 rfl dX11_foresees_55 ?_
              refine x_seti ((cz : Int)) hq1 ?_
              refine x_if_le (tgt := 128) X ⟨by omega, by omega⟩ dX11_foresees_58 (by decide) (fun b_58 => ?_) (fun b_58 => ?_)
              · exact x_vret X hr hlk hW (⟨⟨N2, hN, by first | (rw [v_4, show x = 1000 from by omega]) | (rw [v_4, show cz = 0 from by omega, foS_none, foS_none]), v_5, hoth⟩, hfr⟩) dX11_foresees_128
              · refine lv_aload_n X.1 X.2.1 dX11_foresees_61 rfl (lv_at hl 0 rfl) ?_
                refine x_bipush X (by decide) dX11_foresees_62 ?_
                refine x_lconst X 1 (by decide) dX11_foresees_64 ?_
                refine x_cv (x_runV (k := 2) (As := [.int (iI (6)), .long (lI (1))]) (rest := []) X hW (c_X11_set l E A n _ g2 i (6) q N2 (1) hi hO (by omega) hN (by decide) (by decide)) (by omega) hO rfl gX11_foresees_X11_set rfl rfl rfl (by decide +kernel) ⟨by decide, by decide⟩ rfl hl.1 rfl (Nat.le_of_ble_eq_true rfl) dX11_foresees_65 ⟨Nat.zero_le _, Nat.zero_le _⟩) hW (fun g_65 H locs hp_65 hW => ?_)
                obtain ⟨hN, hf_65⟩ := hp_65
                obtain ⟨N_65, hN_65⟩ : ∃ N9 : Nat → Int, N9 = va_up N2 6 (1) := ⟨_, rfl⟩
                rw [← hN_65] at hN
                have hO : g_65 i = .inr (11, [.ref (A (i + 1)), .ref (A (i + 2)), .ref (A (i + 3)), .ref (A (i + 4)), .int (iI (q 0)), .ref (A (i + 5)), .ref (A (i + 6)), .ref (A (i + 7)), .ref (A (i + 8)), .int (iI (q 1)), .ref (A (i + 9)), .ref (A (i + 10)), .ref (A (i + 11)), .int (iI (q 2)), .ref (A (i + 12)), .ref (A (i + 13)), .int (iI (q 3)), .ref (A (i + 14)), .ref (A (i + 15)), .ref (A (i + 16)), .int (iI (q 4))]) := by rw [hf_65 _ (by omega)]; exact hO
                have h5 : g_65 (i + 5) = aI E 16 f5 := by rw [hf_65 _ (by omega)]; exact h5
                have h6 : g_65 (i + 6) = aI E 128 f6 := by rw [hf_65 _ (by omega)]; exact h6
                have h7 : g_65 (i + 7) = aI E 128 f7 := by rw [hf_65 _ (by omega)]; exact h7
                have h8 : g_65 (i + 8) = aI E 16 f8 := by rw [hf_65 _ (by omega)]; exact h8
                have h9 : g_65 (i + 9) = aI E 10 f9 := by rw [hf_65 _ (by omega)]; exact h9
                have h10 : g_65 (i + 10) = aI E 10 f10 := by rw [hf_65 _ (by omega)]; exact h10
                have v_6 : N_65 6 = 1 := by rw [hN_65, va_up_self]
                have v_4 : N_65 4 = ((foS (LkM L co) cz x : Nat) : Int) := by rw [hN_65, va_up_ne _ _ (by omega)]; exact v_4
                have v_5 : N_65 5 = ((prT (LkM L co) cz : Nat) : Int) := by rw [hN_65, va_up_ne _ _ (by omega)]; exact v_5
                have hoth : ∀ x, (x ≠ 4 ∧ x ≠ 5 ∧ x ≠ 6) → N_65 x = N x := fun x hx => (congrFun hN_65 x).trans ((va_up_ne _ _ (by omega)).trans (hoth x hx))
                have hfr : ∀ j, j ≠ i + 1 → g_65 j = g j := fun j hj => (hf_65 j hj).trans (hfr j hj)
                refine x_iconst X dX11_foresees_68 ?_
                refine x_seti (((0 : Nat) : Int)) rfl ?_
                refine lv_istore_n (lv' := [(2, .int (iI (((0 : Nat) : Int)))), (0, .ref (A (i))), (1, .int (iI (((x + 1 : Nat) : Int))))]) X.1 X.2.1 dX11_foresees_69 rfl hl (by decide) rfl (fun ls hl => ?_)
                have loop_70 : ∀ (fuel : Nat) (k : Nat) (N3 : Nat → Int) (g3 : Nat → va_E) (H : Heap) (locs : List Loc) (ls : Array Slot), (cz - k) < fuel → (k ≤ cz) → (MN E A g3 i N3) → (N3 4 = ((foS (LkM L co) cz x : Nat) : Int)) → (N3 5 = ((prT (LkM L co) cz : Nat) : Int)) → (N3 6 = ((prB (LkM L co) ((x + 1 : Nat) : Int) k : Nat) : Int)) → (∀ x, (x ≠ 4 ∧ x ≠ 5 ∧ x ≠ 6) → N3 x = N x) → (∀ j, j ≠ i + 1 → g3 j = g j) → wH E (wF A n sz) A n s_ g3 H locs → lv_has ls 3 [(0, .ref (A (i))), (1, .int (iI (((x + 1 : Nat) : Int)))), (2, .int (iI (((k : Nat) : Int))))] → W p_ l e_ ({ frames := 4, cells := 0, slots := 0, locals := 160 } : Room) s_ m_ [.ref (A (i))].toArray below meth c_ H locs 0 0 (MQ below (va_Qv (fun g' => (∃ N' : Nat → Int, MN E A g' i N' ∧ N' 4 = ((foS (LkM L co) cz 1000 : Nat) : Int) ∧ N' 5 = ((prT (LkM L co) cz : Nat) : Int) ∧ ∀ x, (x ≠ 4 ∧ x ≠ 5 ∧ x ≠ 6) → N' x = N x) ∧ ∀ j, j ≠ i + 1 → g' j = g j) (wAt E A n) (wF A n sz)) [.ref (A (i))].toArray s_ 0 0 (wF A n sz)) (F0 m_ 70 ls []) := by
                  intro fuel
                  induction fuel with
                  | zero => intro k N3 g3 H locs ls hm; exact absurd hm (Nat.not_lt_zero _)
                  | succ fuel ih_70 =>
                    intro k N3 g3 H locs ls hm hk hN v_4 v_5 v_6 hoth hfr hW hl
                    have hO : g3 i = .inr (11, [.ref (A (i + 1)), .ref (A (i + 2)), .ref (A (i + 3)), .ref (A (i + 4)), .int (iI (q 0)), .ref (A (i + 5)), .ref (A (i + 6)), .ref (A (i + 7)), .ref (A (i + 8)), .int (iI (q 1)), .ref (A (i + 9)), .ref (A (i + 10)), .ref (A (i + 11)), .int (iI (q 2)), .ref (A (i + 12)), .ref (A (i + 13)), .int (iI (q 3)), .ref (A (i + 14)), .ref (A (i + 15)), .ref (A (i + 16)), .int (iI (q 4))]) := (hfr _ (by omega)).trans hOg
                    have h5 : g3 (i + 5) = aI E 16 f5 := (hfr _ (by omega)).trans h5o
                    have h6 : g3 (i + 6) = aI E 128 f6 := (hfr _ (by omega)).trans h6o
                    have h7 : g3 (i + 7) = aI E 128 f7 := (hfr _ (by omega)).trans h7o
                    have h8 : g3 (i + 8) = aI E 16 f8 := (hfr _ (by omega)).trans h8o
                    have h9 : g3 (i + 9) = aI E 10 f9 := (hfr _ (by omega)).trans h9o
                    have h10 : g3 (i + 10) = aI E 10 f10 := (hfr _ (by omega)).trans h10o
                    refine lv_iload_n X.1 X.2.1 dX11_foresees_70 rfl (lv_at hl 2 rfl) ?_
                    refine lv_aload_n X.1 X.2.1 dX11_foresees_71 rfl (lv_at hl 0 rfl) ?_
                    refine x_get (C := RX11) (T := TX11) (N := 21) X hW (by omega) hO rfl lk_0 9 (by decide) lk_1 rfl dX11_foresees_72 ?_
                    refine x_seti ((cz : Int)) hq1 ?_
                    refine x_icmp_ge (tgt := 105) X ⟨by omega, by omega⟩ ⟨by omega, by omega⟩ dX11_foresees_75 (by decide) (fun b_75 => ?_) (fun b_75 => ?_)
                    · rw [show k = cz from by omega] at v_6
                      have hle := prB_le (LkM L co) ((x + 1 : Nat) : Int) cz
                      have hfs : ((foS (LkM L co) cz x + prT (LkM L co) cz : Nat) : Int) + ((prB (LkM L co) ((x + 1 : Nat) : Int) cz : Nat) : Int) * (-1) = ((foS (LkM L co) cz (x + 1) : Nat) : Int) := by rw [foS_succ]; omega
                      refine lv_aload_n X.1 X.2.1 dX11_foresees_105 rfl (lv_at hl 0 rfl) ?_
                      refine x_iconst X dX11_foresees_106 ?_
                      refine x_iconst X dX11_foresees_107 ?_
                      refine x_lconst X 1 (by decide) dX11_foresees_108 ?_
                      refine x_cv (x_runV (k := 3) (As := [.int (iI (4)), .int (iI (5)), .long (lI (1))]) (rest := []) X hW (c_X11_more l E A n _ g3 i (4) (5) q N3 (1) hi hO (by omega) (by omega) (by omega) hN (by decide) (by decide) (by rw [v_4, v_5, Int.mul_one]; omega) (by rw [v_4, v_5, Int.mul_one]; omega)) (by omega) hO rfl gX11_foresees_X11_more rfl rfl rfl (by decide +kernel) ⟨by decide, by decide⟩ rfl hl.1 rfl (Nat.le_of_ble_eq_true rfl) dX11_foresees_109 ⟨Nat.zero_le _, Nat.zero_le _⟩) hW (fun g_109 H locs hp_109 hW => ?_)
                      obtain ⟨hN, hf_109⟩ := hp_109
                      obtain ⟨N_109, hN_109⟩ : ∃ N9 : Nat → Int, N9 = va_up N3 4 (N3 4 + N3 5 * 1) := ⟨_, rfl⟩
                      rw [← hN_109] at hN
                      have hO : g_109 i = .inr (11, [.ref (A (i + 1)), .ref (A (i + 2)), .ref (A (i + 3)), .ref (A (i + 4)), .int (iI (q 0)), .ref (A (i + 5)), .ref (A (i + 6)), .ref (A (i + 7)), .ref (A (i + 8)), .int (iI (q 1)), .ref (A (i + 9)), .ref (A (i + 10)), .ref (A (i + 11)), .int (iI (q 2)), .ref (A (i + 12)), .ref (A (i + 13)), .int (iI (q 3)), .ref (A (i + 14)), .ref (A (i + 15)), .ref (A (i + 16)), .int (iI (q 4))]) := by rw [hf_109 _ (by omega)]; exact hO
                      have h5 : g_109 (i + 5) = aI E 16 f5 := by rw [hf_109 _ (by omega)]; exact h5
                      have h6 : g_109 (i + 6) = aI E 128 f6 := by rw [hf_109 _ (by omega)]; exact h6
                      have h7 : g_109 (i + 7) = aI E 128 f7 := by rw [hf_109 _ (by omega)]; exact h7
                      have h8 : g_109 (i + 8) = aI E 16 f8 := by rw [hf_109 _ (by omega)]; exact h8
                      have h9 : g_109 (i + 9) = aI E 10 f9 := by rw [hf_109 _ (by omega)]; exact h9
                      have h10 : g_109 (i + 10) = aI E 10 f10 := by rw [hf_109 _ (by omega)]; exact h10
                      have v_4 : N_109 4 = ((foS (LkM L co) cz x + prT (LkM L co) cz : Nat) : Int) := by rw [hN_109, va_up_self, v_4, v_5, Int.mul_one, ← Int.natCast_add]
                      have v_5 : N_109 5 = ((prT (LkM L co) cz : Nat) : Int) := by rw [hN_109, va_up_ne _ _ (by omega)]; exact v_5
                      have v_6 : N_109 6 = ((prB (LkM L co) ((x + 1 : Nat) : Int) cz : Nat) : Int) := by rw [hN_109, va_up_ne _ _ (by omega)]; exact v_6
                      have hoth : ∀ x, (x ≠ 4 ∧ x ≠ 5 ∧ x ≠ 6) → N_109 x = N x := fun x hx => (congrFun hN_109 x).trans ((va_up_ne _ _ (by omega)).trans (hoth x hx))
                      have hfr : ∀ j, j ≠ i + 1 → g_109 j = g j := fun j hj => (hf_109 j hj).trans (hfr j hj)
                      refine lv_aload_n X.1 X.2.1 dX11_foresees_112 rfl (lv_at hl 0 rfl) ?_
                      refine x_iconst X dX11_foresees_113 ?_
                      refine x_bipush X (by decide) dX11_foresees_114 ?_
                      refine x_ldc2 X (-1) (by decide) lk_2 dX11_foresees_116 ?_
                      refine x_cv (x_runV (k := 3) (As := [.int (iI (4)), .int (iI (6)), .long (lI ((-1)))]) (rest := []) X hW (c_X11_more l E A n _ g_109 i (4) (6) q N_109 ((-1)) hi hO (by omega) (by omega) (by omega) hN (by decide) (by decide) (by rw [v_4, v_6, hfs]; omega) (by rw [v_4, v_6, hfs]; omega)) (by omega) hO rfl gX11_foresees_X11_more rfl rfl rfl (by decide +kernel) ⟨by decide, by decide⟩ rfl hl.1 rfl (Nat.le_of_ble_eq_true rfl) dX11_foresees_119 ⟨Nat.zero_le _, Nat.zero_le _⟩) hW (fun g_119 H locs hp_119 hW => ?_)
                      obtain ⟨hN, hf_119⟩ := hp_119
                      obtain ⟨N_119, hN_119⟩ : ∃ N9 : Nat → Int, N9 = va_up N_109 4 (N_109 4 + N_109 6 * ((-1))) := ⟨_, rfl⟩
                      rw [← hN_119] at hN
                      have hO : g_119 i = .inr (11, [.ref (A (i + 1)), .ref (A (i + 2)), .ref (A (i + 3)), .ref (A (i + 4)), .int (iI (q 0)), .ref (A (i + 5)), .ref (A (i + 6)), .ref (A (i + 7)), .ref (A (i + 8)), .int (iI (q 1)), .ref (A (i + 9)), .ref (A (i + 10)), .ref (A (i + 11)), .int (iI (q 2)), .ref (A (i + 12)), .ref (A (i + 13)), .int (iI (q 3)), .ref (A (i + 14)), .ref (A (i + 15)), .ref (A (i + 16)), .int (iI (q 4))]) := by rw [hf_119 _ (by omega)]; exact hO
                      have h5 : g_119 (i + 5) = aI E 16 f5 := by rw [hf_119 _ (by omega)]; exact h5
                      have h6 : g_119 (i + 6) = aI E 128 f6 := by rw [hf_119 _ (by omega)]; exact h6
                      have h7 : g_119 (i + 7) = aI E 128 f7 := by rw [hf_119 _ (by omega)]; exact h7
                      have h8 : g_119 (i + 8) = aI E 16 f8 := by rw [hf_119 _ (by omega)]; exact h8
                      have h9 : g_119 (i + 9) = aI E 10 f9 := by rw [hf_119 _ (by omega)]; exact h9
                      have h10 : g_119 (i + 10) = aI E 10 f10 := by rw [hf_119 _ (by omega)]; exact h10
                      have v_4 : N_119 4 = ((foS (LkM L co) cz (x + 1) : Nat) : Int) := by rw [hN_119, va_up_self, v_4, v_6, hfs]
                      have v_5 : N_119 5 = ((prT (LkM L co) cz : Nat) : Int) := by rw [hN_119, va_up_ne _ _ (by omega)]; exact v_5
                      have v_6 : N_119 6 = ((prB (LkM L co) ((x + 1 : Nat) : Int) cz : Nat) : Int) := by rw [hN_119, va_up_ne _ _ (by omega)]; exact v_6
                      have hoth : ∀ x, (x ≠ 4 ∧ x ≠ 5 ∧ x ≠ 6) → N_119 x = N x := fun x hx => (congrFun hN_119 x).trans ((va_up_ne _ _ (by omega)).trans (hoth x hx))
                      have hfr : ∀ j, j ≠ i + 1 → g_119 j = g j := fun j hj => (hf_119 j hj).trans (hfr j hj)
                      refine lv_iinc (v := iI (((x + 1 + 1 : Nat) : Int))) (lv' := [(1, .int (iI (((x + 1 + 1 : Nat) : Int)))), (0, .ref (A (i))), (2, .int (iI (((k : Nat) : Int))))]) X.1 X.2.1 dX11_foresees_122 hl (k := 1) rfl (by rw [show (Int32.ofInt (1)) = iI (1) from rfl, iI_add]; rfl) (by decide) rfl (fun ls hl => ?_)
                      refine lv_goto (tgt := 47) X.1 X.2.1 dX11_foresees_125 (by decide) ?_
                      exact ih_47 (x + 1) N_119 g_119 _ _ _ (by omega) (by omega) hN v_4 v_5 hoth hfr hW (lv_sub hl [1, 0] rfl)
                    · have hkz : k < cz := by omega
                      obtain ⟨hc1, hc2, hc3, hc4⟩ := hcv k hkz
                      have hbb : bBelow (L (co k)) ((x + 1 : Nat) : Int) ≤ 8000 := (hcap0 k hkz).2.1 _
                      have hps : prB (LkM L co) ((x + 1 : Nat) : Int) (k + 1) = prB (LkM L co) ((x + 1 : Nat) : Int) k * bBelow (L (co k)) ((x + 1 : Nat) : Int) := rfl
                      have hP1 := Nat.le_trans (prB_le (LkM L co) ((x + 1 : Nat) : Int) (k + 1)) (prT_le (fun k hk => (hcap0 k hk).1) (k + 1) hkz)
                      have hpc1 := pow_cap (d := k + 1) (by omega)
                      refine lv_aload_n X.1 X.2.1 dX11_foresees_78 rfl (lv_at hl 0 rfl) ?_
                      refine x_bipush X (by decide) dX11_foresees_79 ?_
                      refine lv_aload_n X.1 X.2.1 dX11_foresees_81 rfl (lv_at hl 0 rfl) ?_
                      refine lv_aload_n X.1 X.2.1 dX11_foresees_82 rfl (lv_at hl 0 rfl) ?_
                      refine x_get (C := RX11) (T := TX11) (N := 21) X hW (by omega) hO rfl lk_0 10 (by decide) lk_3 rfl dX11_foresees_83 ?_
                      refine lv_iload_n X.1 X.2.1 dX11_foresees_86 rfl (lv_at hl 2 rfl) ?_
                      refine x_iald X hW (by omega) h9 (v := iI (((co k : Nat) : Int))) k (by omega) (by omega) (by decide) hc3 dX11_foresees_87 ?_
                      refine x_iconst X dX11_foresees_88 ?_
                      refine lv_iload_n X.1 X.2.1 dX11_foresees_89 rfl (lv_at hl 1 rfl) ?_
                      refine x_iconst X dX11_foresees_90 ?_
                      refine x_isub X dX11_foresees_91 ?_
                      refine x_ci (x_runV (k := 3) (As := [.int (iI (((co k : Nat) : Int))), .int (iI (0)), .int (iI ((((x + 1 : Nat) : Int)) - 1))]) (rest := [.int (iI (6)), .ref (A (i))]) X hW (c_X11_weightOf l E A n _ g3 i q bk L (co k) (0) (((x + 1 : Nat) : Int) - 1) hi hO (hBo.frame (fun j a9 b9 => hfr j (by omega))) (by omega) ⟨by omega, by omega⟩ ⟨by omega, by omega⟩) (by omega) hO rfl gX11_foresees_X11_weightOf rfl rfl rfl (by decide +kernel) ⟨by decide, by decide⟩ rfl hl.1 rfl (Nat.le_of_ble_eq_true rfl) dX11_foresees_92 ⟨Nat.zero_le _, Nat.zero_le _⟩) hW (fun r_92 g_92 H locs hp_92 hW => ?_)
                      obtain ⟨hr_92, he_92⟩ := hp_92
                      rw [he_92] at hW
                      subst hr_92
                      refine x_seti (((bBelow (L (co k)) ((x + 1 : Nat) : Int) : Nat) : Int)) (by rw [bIn_below]) ?_
                      refine x_i2l X ⟨by omega, by omega⟩ dX11_foresees_95 ?_
                      refine x_cv (x_runV (k := 2) (As := [.int (iI (6)), .long (lI (((bBelow (L (co k)) ((x + 1 : Nat) : Int) : Nat) : Int)))]) (rest := []) X hW (c_X11_times l E A n _ g3 i (6) q N3 (((bBelow (L (co k)) ((x + 1 : Nat) : Int) : Nat) : Int)) hi hO (by omega) hN (by omega) (by omega) (by rw [v_6, ← Int.natCast_mul, ← hps]; omega) (by rw [v_6, ← Int.natCast_mul, ← hps]; omega)) (by omega) hO rfl gX11_foresees_X11_times rfl rfl rfl (by decide +kernel) ⟨by decide, by decide⟩ rfl hl.1 rfl (Nat.le_of_ble_eq_true rfl) dX11_foresees_96 ⟨Nat.zero_le _, Nat.zero_le _⟩) hW (fun g_96 H locs hp_96 hW => ?_)
                      obtain ⟨hN, hf_96⟩ := hp_96
                      obtain ⟨N_96, hN_96⟩ : ∃ N9 : Nat → Int, N9 = va_up N3 6 (N3 6 * (((bBelow (L (co k)) ((x + 1 : Nat) : Int) : Nat) : Int))) := ⟨_, rfl⟩
                      rw [← hN_96] at hN
                      have hO : g_96 i = .inr (11, [.ref (A (i + 1)), .ref (A (i + 2)), .ref (A (i + 3)), .ref (A (i + 4)), .int (iI (q 0)), .ref (A (i + 5)), .ref (A (i + 6)), .ref (A (i + 7)), .ref (A (i + 8)), .int (iI (q 1)), .ref (A (i + 9)), .ref (A (i + 10)), .ref (A (i + 11)), .int (iI (q 2)), .ref (A (i + 12)), .ref (A (i + 13)), .int (iI (q 3)), .ref (A (i + 14)), .ref (A (i + 15)), .ref (A (i + 16)), .int (iI (q 4))]) := by rw [hf_96 _ (by omega)]; exact hO
                      have h5 : g_96 (i + 5) = aI E 16 f5 := by rw [hf_96 _ (by omega)]; exact h5
                      have h6 : g_96 (i + 6) = aI E 128 f6 := by rw [hf_96 _ (by omega)]; exact h6
                      have h7 : g_96 (i + 7) = aI E 128 f7 := by rw [hf_96 _ (by omega)]; exact h7
                      have h8 : g_96 (i + 8) = aI E 16 f8 := by rw [hf_96 _ (by omega)]; exact h8
                      have h9 : g_96 (i + 9) = aI E 10 f9 := by rw [hf_96 _ (by omega)]; exact h9
                      have h10 : g_96 (i + 10) = aI E 10 f10 := by rw [hf_96 _ (by omega)]; exact h10
                      have v_6 : N_96 6 = ((prB (LkM L co) ((x + 1 : Nat) : Int) (k + 1) : Nat) : Int) := by rw [hN_96, va_up_self, v_6, ← Int.natCast_mul, ← hps]
                      have v_4 : N_96 4 = ((foS (LkM L co) cz x : Nat) : Int) := by rw [hN_96, va_up_ne _ _ (by omega)]; exact v_4
                      have v_5 : N_96 5 = ((prT (LkM L co) cz : Nat) : Int) := by rw [hN_96, va_up_ne _ _ (by omega)]; exact v_5
                      have hoth : ∀ x, (x ≠ 4 ∧ x ≠ 5 ∧ x ≠ 6) → N_96 x = N x := fun x hx => (congrFun hN_96 x).trans ((va_up_ne _ _ (by omega)).trans (hoth x hx))
                      have hfr : ∀ j, j ≠ i + 1 → g_96 j = g j := fun j hj => (hf_96 j hj).trans (hfr j hj)
                      refine lv_iinc (v := iI (((k + 1 : Nat) : Int))) (lv' := [(2, .int (iI (((k + 1 : Nat) : Int)))), (0, .ref (A (i))), (1, .int (iI (((x + 1 : Nat) : Int))))]) X.1 X.2.1 dX11_foresees_99 hl (k := 2) rfl (by rw [show (Int32.ofInt (1)) = iI (1) from rfl, iI_add]; rfl) (by decide) rfl (fun ls hl => ?_)
                      refine lv_goto (tgt := 70) X.1 X.2.1 dX11_foresees_102 (by decide) ?_
                      exact ih_70 (k + 1) N_96 g_96 _ _ _ (by omega) (by omega) hN v_4 v_5 v_6 hoth hfr hW (lv_sub hl [1, 2, 0] rfl)
                exact loop_70 _ 0 N_65 g_65 _ _ _ (Nat.lt_succ_self _) (Nat.zero_le _) hN v_4 v_5 v_6 hoth hfr hW (lv_sub hl [1, 2, 0] rfl)
        exact loop_47 _ 0 N1 g1 _ _ _ (Nat.lt_succ_self _) (Nat.zero_le _) hN v_4 v_5 hoth hfr hW (lv_sub hl [1, 0] rfl)
      · have hkz : k < cz := by omega
        obtain ⟨hc1, hc2, hc3, hc4⟩ := hcv k hkz
        obtain ⟨hb1, hb5, hb8, hb9, hbq⟩ := hbv (co k) hc1
        have ht8 : bE (L (co k)) (fun _ => 1) ≤ 8000 := (hcap0 k hkz).1
        have hps : prT (LkM L co) (k + 1) = prT (LkM L co) k * bE (L (co k)) (fun _ => 1) := rfl
        have hP1 := prT_le (fun k hk => (hcap0 k hk).1) (k + 1) hkz
        have hpc1 := pow_cap (d := k + 1) (by omega)
        refine lv_aload_n X.1 X.2.1 dX11_foresees_22 rfl (lv_at hl 0 rfl) ?_
        refine x_iconst X dX11_foresees_23 ?_
        refine lv_aload_n X.1 X.2.1 dX11_foresees_24 rfl (lv_at hl 0 rfl) ?_
        refine x_get (C := RX11) (T := TX11) (N := 21) X hW (by omega) hO rfl lk_0 8 (by decide) lk_4 rfl dX11_foresees_25 ?_
        refine lv_aload_n X.1 X.2.1 dX11_foresees_28 rfl (lv_at hl 0 rfl) ?_
        refine x_get (C := RX11) (T := TX11) (N := 21) X hW (by omega) hO rfl lk_0 10 (by decide) lk_3 rfl dX11_foresees_29 ?_
        refine lv_iload_n X.1 X.2.1 dX11_foresees_32 rfl (lv_at hl 1 rfl) ?_
        refine x_iald X hW (by omega) h9 (v := iI (((co k : Nat) : Int))) k (by omega) (by omega) (by decide) hc3 dX11_foresees_33 ?_
        refine x_iald X hW (by omega) h8 (v := iI (((bE (L (co k)) (fun _ => 1) : Nat) : Int))) (co k) (by omega) (by omega) (by decide) hb8 dX11_foresees_34 ?_
        refine x_i2l X ⟨by omega, by omega⟩ dX11_foresees_35 ?_
        refine x_cv (x_runV (k := 2) (As := [.int (iI (5)), .long (lI (((bE (L (co k)) (fun _ => 1) : Nat) : Int)))]) (rest := []) X hW (c_X11_times l E A n _ g1 i (5) q N1 (((bE (L (co k)) (fun _ => 1) : Nat) : Int)) hi hO (by omega) hN (by omega) (by omega) (by rw [v_5, ← Int.natCast_mul, ← hps]; omega) (by rw [v_5, ← Int.natCast_mul, ← hps]; omega)) (by omega) hO rfl gX11_foresees_X11_times rfl rfl rfl (by decide +kernel) ⟨by decide, by decide⟩ rfl hl.1 rfl (Nat.le_of_ble_eq_true rfl) dX11_foresees_36 ⟨Nat.zero_le _, Nat.zero_le _⟩) hW (fun g_36 H locs hp_36 hW => ?_)
        obtain ⟨hN, hf_36⟩ := hp_36
        obtain ⟨N_36, hN_36⟩ : ∃ N9 : Nat → Int, N9 = va_up N1 5 (N1 5 * (((bE (L (co k)) (fun _ => 1) : Nat) : Int))) := ⟨_, rfl⟩
        rw [← hN_36] at hN
        have hO : g_36 i = .inr (11, [.ref (A (i + 1)), .ref (A (i + 2)), .ref (A (i + 3)), .ref (A (i + 4)), .int (iI (q 0)), .ref (A (i + 5)), .ref (A (i + 6)), .ref (A (i + 7)), .ref (A (i + 8)), .int (iI (q 1)), .ref (A (i + 9)), .ref (A (i + 10)), .ref (A (i + 11)), .int (iI (q 2)), .ref (A (i + 12)), .ref (A (i + 13)), .int (iI (q 3)), .ref (A (i + 14)), .ref (A (i + 15)), .ref (A (i + 16)), .int (iI (q 4))]) := by rw [hf_36 _ (by omega)]; exact hO
        have h5 : g_36 (i + 5) = aI E 16 f5 := by rw [hf_36 _ (by omega)]; exact h5
        have h6 : g_36 (i + 6) = aI E 128 f6 := by rw [hf_36 _ (by omega)]; exact h6
        have h7 : g_36 (i + 7) = aI E 128 f7 := by rw [hf_36 _ (by omega)]; exact h7
        have h8 : g_36 (i + 8) = aI E 16 f8 := by rw [hf_36 _ (by omega)]; exact h8
        have h9 : g_36 (i + 9) = aI E 10 f9 := by rw [hf_36 _ (by omega)]; exact h9
        have h10 : g_36 (i + 10) = aI E 10 f10 := by rw [hf_36 _ (by omega)]; exact h10
        have v_5 : N_36 5 = ((prT (LkM L co) (k + 1) : Nat) : Int) := by rw [hN_36, va_up_self, v_5, ← Int.natCast_mul, ← hps]
        have v_4 : N_36 4 = 0 := by rw [hN_36, va_up_ne _ _ (by omega)]; exact v_4
        have hoth : ∀ x, (x ≠ 4 ∧ x ≠ 5 ∧ x ≠ 6) → N_36 x = N x := fun x hx => (congrFun hN_36 x).trans ((va_up_ne _ _ (by omega)).trans (hoth x hx))
        have hfr : ∀ j, j ≠ i + 1 → g_36 j = g j := fun j hj => (hf_36 j hj).trans (hfr j hj)
        refine lv_iinc (v := iI (((k + 1 : Nat) : Int))) (lv' := [(1, .int (iI (((k + 1 : Nat) : Int)))), (0, .ref (A (i)))]) X.1 X.2.1 dX11_foresees_39 hl (k := 1) rfl (by rw [show (Int32.ofInt (1)) = iI (1) from rfl, iI_add]; rfl) (by decide) rfl (fun ls hl => ?_)
        refine lv_goto (tgt := 14) X.1 X.2.1 dX11_foresees_42 (by decide) ?_
        exact ih_14 (k + 1) N_36 g_36 _ _ _ (by omega) (by omega) hN v_4 v_5 hoth hfr hW (lv_sub hl [1, 0] rfl)
  exact loop_14 _ 0 N_9 g_9 _ _ _ (Nat.lt_succ_self _) (Nat.zero_le _) hN v_4 v_5 hoth hfr hW (lv_sub hl [1, 0] rfl)

set_option maxHeartbeats 4000000 in
set_option maxRecDepth 100000 in
/-- foresight -/
theorem c_X11_foresight (l : Launch) (E : wE) (A : Nat → Nat) (n sz : Nat) (g : Nat → va_E) (i : Nat) (q : Nat → Int) (N : Nat → Int) (bk : Nat) (L : Nat → List (Nat × Nat)) (cz : Nat) (co br : Nat → Nat) (hi : i + 16 < n) (hO : g i = mO A i q) (hN : MN E A g i N) (hB : BooksM E A g i bk L) (hq1 : q 1 = (cz : Int)) (hC : ComM E A g i bk cz co br) : Met l yX11_foresight wsX11_foresight ({ frames := 7, cells := 0, slots := 0, locals := 260 } : Room) (va_Pc [.ref (A (i))] (wPre E A n sz g)) (va_Qv (fun g' => MR E A g' i (rdT ((foS (LkM L co) cz 1000 : Nat) : Int) (prT (LkM L co) cz)) (rdB ((foS (LkM L co) cz 1000 : Nat) : Int) (prT (LkM L co) cz)) ∧ ∀ j, j ≠ i + 1 → g' j = g j) (wAt E A n) (wF A n sz)) 0 0 (wF A n sz) := by
  refine x_met (cc := cX11_foresight) (maxL := 1) (ret := none) [.ref (A (i))] (by decide) rfl (Nat.le_of_ble_eq_true rfl) ?_
  intro p_ e_ s_ m_ below meth c_ ls X hr hlk hnm hsz hW hl
  have hl : lv_has ls 1 [(0, .ref (A (i)))] := hl
  have hO : g i = .inr (11, [.ref (A (i + 1)), .ref (A (i + 2)), .ref (A (i + 3)), .ref (A (i + 4)), .int (iI (q 0)), .ref (A (i + 5)), .ref (A (i + 6)), .ref (A (i + 7)), .ref (A (i + 8)), .int (iI (q 1)), .ref (A (i + 9)), .ref (A (i + 10)), .ref (A (i + 11)), .int (iI (q 2)), .ref (A (i + 12)), .ref (A (i + 13)), .int (iI (q 3)), .ref (A (i + 14)), .ref (A (i + 15)), .ref (A (i + 16)), .int (iI (q 4))]) := hO
  have hOg := hO
  have hfr : ∀ j, j ≠ i + 1 → g j = g j := fun _ _ => rfl
  have hBo := hB
  obtain ⟨f5, f6, f7, f8, h5, h6, h7, h8, hbk, hbv⟩ := id hB
  have h5o := h5
  have h6o := h6
  have h7o := h7
  have h8o := h8
  have hCo := hC
  obtain ⟨f9, f10, h9, h10, hc10, hcv⟩ := id hC
  have h9o := h9
  have h10o := h10
  have hok0 : ∀ k, k < cz → bOK (LkM L co k) := fun k hk => by
    have hk2 := (hcv k hk).1
    exact ⟨(hbv _ hk2).1, fun u hu => ((hbv _ hk2).2.2.2.2 u hu).2.2⟩
  have hcap0 : ∀ k, k < cz → bE (LkM L co k) (fun _ => 1) ≤ 8000 ∧ (∀ b : Int, bBelow (LkM L co k) b ≤ 8000) ∧ ∀ b : Int, bGath (LkM L co k) b ≤ 8000000 := fun k hk => ⟨bOK_tot (hok0 k hk), fun b => bOK_below (hok0 k hk) b, fun b => bOK_gath (hok0 k hk) b⟩
  have hpos0 : ∀ k, k < cz → 0 < bE (LkM L co k) (fun _ => 1) := fun k hk => (hbv _ (hcv k hk).1).2.2.2.1
  have hpc := pow_cap hc10
  have hP := prT_le (fun k hk => (hcap0 k hk).1) cz (Nat.le_refl _)
  have hP0 : 0 < prT (LkM L co) cz := pr_pos cz hpos0
  have hS := foS_le (LkM L co) cz 1000
  refine lv_aload_n X.1 X.2.1 dX11_foresight_0 rfl (lv_at hl 0 rfl) ?_
  refine x_cv (x_runV (k := 0) (As := []) (rest := []) X hW (c_X11_foresees l E A n _ g i q N bk L cz co br hi hO hN (hB.frame (fun j a9 b9 => hfr j (by omega))) hq1 (hC.frame (hfr _ (by omega)) (hfr _ (by omega)))) (by omega) hO rfl gX11_foresight_X11_foresees rfl rfl rfl (by decide +kernel) ⟨by decide, by decide⟩ rfl hl.1 rfl (Nat.le_of_ble_eq_true rfl) dX11_foresight_1 ⟨Nat.zero_le _, Nat.zero_le _⟩) hW (fun g_1 H locs hp_1 hW => ?_)
  obtain ⟨⟨N_1, hN, v_4, v_5, ho_1⟩, hf_1⟩ := hp_1
  have hfr : ∀ j, j ≠ i + 1 → g_1 j = g j := fun j hj => (hf_1 j hj).trans (hfr j hj)
  have hO : g_1 i = .inr (11, [.ref (A (i + 1)), .ref (A (i + 2)), .ref (A (i + 3)), .ref (A (i + 4)), .int (iI (q 0)), .ref (A (i + 5)), .ref (A (i + 6)), .ref (A (i + 7)), .ref (A (i + 8)), .int (iI (q 1)), .ref (A (i + 9)), .ref (A (i + 10)), .ref (A (i + 11)), .int (iI (q 2)), .ref (A (i + 12)), .ref (A (i + 13)), .int (iI (q 3)), .ref (A (i + 14)), .ref (A (i + 15)), .ref (A (i + 16)), .int (iI (q 4))]) := by rw [hf_1 _ (by omega)]; exact hO
  refine lv_aload_n X.1 X.2.1 dX11_foresight_4 rfl (lv_at hl 0 rfl) ?_
  refine x_bipush X (by decide) dX11_foresight_5 ?_
  refine x_iconst X dX11_foresight_7 ?_
  refine x_cv (x_runV (k := 2) (As := [.int (iI (10)), .int (iI (4))]) (rest := []) X hW (c_X11_copy l E A n _ g_1 i (10) (4) q N_1 hi hO (by omega) (by omega) (by omega) hN) (by omega) hO rfl gX11_foresight_X11_copy rfl rfl rfl (by decide +kernel) ⟨by decide, by decide⟩ rfl hl.1 rfl (Nat.le_of_ble_eq_true rfl) dX11_foresight_8 ⟨Nat.zero_le _, Nat.zero_le _⟩) hW (fun g_8 H locs hp_8 hW => ?_)
  obtain ⟨hN, hf_8⟩ := hp_8
  obtain ⟨N_8, hN_8⟩ : ∃ N9 : Nat → Int, N9 = va_up N_1 10 (N_1 (4)) := ⟨_, rfl⟩
  rw [← hN_8] at hN
  have hO : g_8 i = .inr (11, [.ref (A (i + 1)), .ref (A (i + 2)), .ref (A (i + 3)), .ref (A (i + 4)), .int (iI (q 0)), .ref (A (i + 5)), .ref (A (i + 6)), .ref (A (i + 7)), .ref (A (i + 8)), .int (iI (q 1)), .ref (A (i + 9)), .ref (A (i + 10)), .ref (A (i + 11)), .int (iI (q 2)), .ref (A (i + 12)), .ref (A (i + 13)), .int (iI (q 3)), .ref (A (i + 14)), .ref (A (i + 15)), .ref (A (i + 16)), .int (iI (q 4))]) := by rw [hf_8 _ (by omega)]; exact hO
  have v_10 : N_8 10 = ((foS (LkM L co) cz 1000 : Nat) : Int) := by rw [hN_8, va_up_self, v_4]
  have v_4 : N_8 4 = ((foS (LkM L co) cz 1000 : Nat) : Int) := by rw [hN_8, va_up_ne _ _ (by omega)]; exact v_4
  have v_5 : N_8 5 = ((prT (LkM L co) cz : Nat) : Int) := by rw [hN_8, va_up_ne _ _ (by omega)]; exact v_5
  have hfr : ∀ j, j ≠ i + 1 → g_8 j = g j := fun j hj => (hf_8 j hj).trans (hfr j hj)
  refine lv_aload_n X.1 X.2.1 dX11_foresight_11 rfl (lv_at hl 0 rfl) ?_
  refine x_bipush X (by decide) dX11_foresight_12 ?_
  refine x_iconst X dX11_foresight_14 ?_
  refine x_cv (x_runV (k := 2) (As := [.int (iI (11)), .int (iI (5))]) (rest := []) X hW (c_X11_copy l E A n _ g_8 i (11) (5) q N_8 hi hO (by omega) (by omega) (by omega) hN) (by omega) hO rfl gX11_foresight_X11_copy rfl rfl rfl (by decide +kernel) ⟨by decide, by decide⟩ rfl hl.1 rfl (Nat.le_of_ble_eq_true rfl) dX11_foresight_15 ⟨Nat.zero_le _, Nat.zero_le _⟩) hW (fun g_15 H locs hp_15 hW => ?_)
  obtain ⟨hN, hf_15⟩ := hp_15
  obtain ⟨N_15, hN_15⟩ : ∃ N9 : Nat → Int, N9 = va_up N_8 11 (N_8 (5)) := ⟨_, rfl⟩
  rw [← hN_15] at hN
  have hO : g_15 i = .inr (11, [.ref (A (i + 1)), .ref (A (i + 2)), .ref (A (i + 3)), .ref (A (i + 4)), .int (iI (q 0)), .ref (A (i + 5)), .ref (A (i + 6)), .ref (A (i + 7)), .ref (A (i + 8)), .int (iI (q 1)), .ref (A (i + 9)), .ref (A (i + 10)), .ref (A (i + 11)), .int (iI (q 2)), .ref (A (i + 12)), .ref (A (i + 13)), .int (iI (q 3)), .ref (A (i + 14)), .ref (A (i + 15)), .ref (A (i + 16)), .int (iI (q 4))]) := by rw [hf_15 _ (by omega)]; exact hO
  have v_11 : N_15 11 = ((prT (LkM L co) cz : Nat) : Int) := by rw [hN_15, va_up_self, v_5]
  have v_4 : N_15 4 = ((foS (LkM L co) cz 1000 : Nat) : Int) := by rw [hN_15, va_up_ne _ _ (by omega)]; exact v_4
  have v_5 : N_15 5 = ((prT (LkM L co) cz : Nat) : Int) := by rw [hN_15, va_up_ne _ _ (by omega)]; exact v_5
  have v_10 : N_15 10 = ((foS (LkM L co) cz 1000 : Nat) : Int) := by rw [hN_15, va_up_ne _ _ (by omega)]; exact v_10
  have hfr : ∀ j, j ≠ i + 1 → g_15 j = g j := fun j hj => (hf_15 j hj).trans (hfr j hj)
  refine lv_aload_n X.1 X.2.1 dX11_foresight_18 rfl (lv_at hl 0 rfl) ?_
  refine x_bipush X (by decide) dX11_foresight_19 ?_
  refine x_bipush X (by decide) dX11_foresight_21 ?_
  refine x_cv (x_runV (k := 2) (As := [.int (iI (10)), .int (iI (11))]) (rest := []) X hW (c_X11_result l E A n _ g_15 i (10) (11) q N_15 (((foS (LkM L co) cz 1000 : Nat) : Int)) (prT (LkM L co) cz) hi hO (by omega) (by omega) (by omega) (by omega) hN v_10 v_11 hP0 (by omega) (by omega) (by omega)) (by omega) hO rfl gX11_foresight_X11_result rfl rfl rfl (by decide +kernel) ⟨by decide, by decide⟩ rfl hl.1 rfl (Nat.le_of_ble_eq_true rfl) dX11_foresight_23 ⟨Nat.zero_le _, Nat.zero_le _⟩) hW (fun g_23 H locs hp_23 hW => ?_)
  obtain ⟨⟨N_23, hN, v_0, v_1, ho8_23⟩, hf_23⟩ := hp_23
  have hfr : ∀ j, j ≠ i + 1 → g_23 j = g j := fun j hj => (hf_23 j hj).trans (hfr j hj)
  have hO : g_23 i = .inr (11, [.ref (A (i + 1)), .ref (A (i + 2)), .ref (A (i + 3)), .ref (A (i + 4)), .int (iI (q 0)), .ref (A (i + 5)), .ref (A (i + 6)), .ref (A (i + 7)), .ref (A (i + 8)), .int (iI (q 1)), .ref (A (i + 9)), .ref (A (i + 10)), .ref (A (i + 11)), .int (iI (q 2)), .ref (A (i + 12)), .ref (A (i + 13)), .int (iI (q 3)), .ref (A (i + 14)), .ref (A (i + 15)), .ref (A (i + 16)), .int (iI (q 4))]) := by rw [hf_23 _ (by omega)]; exact hO
  exact x_vret X hr hlk hW (⟨⟨_, hN, v_0, v_1⟩, hfr⟩) dX11_foresight_26

/-- the bar of half: the least that brings half of what foresight brings, if one does -/
def HF (Lk : Nat → List (Nat × Nat)) (cz b : Nat) : Prop := foS Lk cz 1000 ≤ 2 * foM Lk (fun _ => b) cz cz
def HFR (Lk : Nat → List (Nat × Nat)) (cz : Nat) (r : Int32) : Prop := (∃ b : Nat, b ≤ 1001 ∧ r = iI (b : Int) ∧ HF Lk cz b ∧ ∀ c, c < b → ¬ HF Lk cz c) ∨ (r = iI (-1) ∧ ∀ c, c ≤ 1001 → ¬ HF Lk cz c)

set_option maxHeartbeats 4000000 in
set_option maxRecDepth 100000 in
/-- half -/
theorem c_X11_half (l : Launch) (E : wE) (A : Nat → Nat) (n sz : Nat) (g : Nat → va_E) (i : Nat) (q : Nat → Int) (N : Nat → Int) (bk : Nat) (L : Nat → List (Nat × Nat)) (cz : Nat) (co br : Nat → Nat) (hi : i + 16 < n) (hO : g i = mO A i q) (hN : MN E A g i N) (hB : BooksM E A g i bk L) (hq1 : q 1 = (cz : Int)) (hC : ComM E A g i bk cz co br) : Met l yX11_half wsX11_half ({ frames := 6, cells := 0, slots := 0, locals := 220 } : Room) (va_Pc [.ref (A (i))] (wPre E A n sz g)) (va_Qi (fun r g' => HFR (LkM L co) cz r ∧ (∃ N' : Nat → Int, MN E A g' i N' ∧ ∀ x, x < 2 → N' x = N x) ∧ ∀ j, j ≠ i + 1 → g' j = g j) (wAt E A n) (wF A n sz)) 0 0 (wF A n sz) := by
  refine x_met (cc := cX11_half) (maxL := 2) (ret := (some .int)) [.ref (A (i))] (by decide) rfl (Nat.le_of_ble_eq_true rfl) ?_
  intro p_ e_ s_ m_ below meth c_ ls X hr hlk hnm hsz hW hl
  have hl : lv_has ls 2 [(0, .ref (A (i)))] := hl
  have lk_0 : Cond.constantLong RX11 79 (2) ∈ wsX11_half := by decide +kernel
  have hO : g i = .inr (11, [.ref (A (i + 1)), .ref (A (i + 2)), .ref (A (i + 3)), .ref (A (i + 4)), .int (iI (q 0)), .ref (A (i + 5)), .ref (A (i + 6)), .ref (A (i + 7)), .ref (A (i + 8)), .int (iI (q 1)), .ref (A (i + 9)), .ref (A (i + 10)), .ref (A (i + 11)), .int (iI (q 2)), .ref (A (i + 12)), .ref (A (i + 13)), .int (iI (q 3)), .ref (A (i + 14)), .ref (A (i + 15)), .ref (A (i + 16)), .int (iI (q 4))]) := hO
  have hOg := hO
  have hfr : ∀ j, j ≠ i + 1 → g j = g j := fun _ _ => rfl
  have hoth : ∀ x, x < 2 → N x = N x := fun _ _ => rfl
  have hBo := hB
  obtain ⟨f5, f6, f7, f8, h5, h6, h7, h8, hbk, hbv⟩ := id hB
  have h5o := h5
  have h6o := h6
  have h7o := h7
  have h8o := h8
  have hCo := hC
  obtain ⟨f9, f10, h9, h10, hc10, hcv⟩ := id hC
  have h9o := h9
  have h10o := h10
  have hok0 : ∀ k, k < cz → bOK (LkM L co k) := fun k hk => by
    have hk2 := (hcv k hk).1
    exact ⟨(hbv _ hk2).1, fun u hu => ((hbv _ hk2).2.2.2.2 u hu).2.2⟩
  have hcap0 : ∀ k, k < cz → bE (LkM L co k) (fun _ => 1) ≤ 8000 ∧ (∀ b : Int, bBelow (LkM L co k) b ≤ 8000) ∧ ∀ b : Int, bGath (LkM L co k) b ≤ 8000000 := fun k hk => ⟨bOK_tot (hok0 k hk), fun b => bOK_below (hok0 k hk) b, fun b => bOK_gath (hok0 k hk) b⟩
  have hpos0 : ∀ k, k < cz → 0 < bE (LkM L co k) (fun _ => 1) := fun k hk => (hbv _ (hcv k hk).1).2.2.2.1
  have hpc := pow_cap hc10
  have hP := prT_le (fun k hk => (hcap0 k hk).1) cz (Nat.le_refl _)
  have hP0 : 0 < prT (LkM L co) cz := pr_pos cz hpos0
  have hS := foS_le (LkM L co) cz 1000
  refine lv_aload_n X.1 X.2.1 dX11_half_0 rfl (lv_at hl 0 rfl) ?_
  refine x_cv (x_runV (k := 0) (As := []) (rest := []) X hW (c_X11_foresees l E A n _ g i q N bk L cz co br hi hO hN (hB.frame (fun j a9 b9 => hfr j (by omega))) hq1 (hC.frame (hfr _ (by omega)) (hfr _ (by omega)))) (by omega) hO rfl gX11_half_X11_foresees rfl rfl rfl (by decide +kernel) ⟨by decide, by decide⟩ rfl hl.1 rfl (Nat.le_of_ble_eq_true rfl) dX11_half_1 ⟨Nat.zero_le _, Nat.zero_le _⟩) hW (fun g_1 H locs hp_1 hW => ?_)
  obtain ⟨⟨N_1, hN, v_4, v_5, ho_1⟩, hf_1⟩ := hp_1
  have hoth : ∀ x, x < 2 → N_1 x = N x := fun x hx => (ho_1 x (by omega)).trans (hoth x hx)
  have hfr : ∀ j, j ≠ i + 1 → g_1 j = g j := fun j hj => (hf_1 j hj).trans (hfr j hj)
  have hO : g_1 i = .inr (11, [.ref (A (i + 1)), .ref (A (i + 2)), .ref (A (i + 3)), .ref (A (i + 4)), .int (iI (q 0)), .ref (A (i + 5)), .ref (A (i + 6)), .ref (A (i + 7)), .ref (A (i + 8)), .int (iI (q 1)), .ref (A (i + 9)), .ref (A (i + 10)), .ref (A (i + 11)), .int (iI (q 2)), .ref (A (i + 12)), .ref (A (i + 13)), .int (iI (q 3)), .ref (A (i + 14)), .ref (A (i + 15)), .ref (A (i + 16)), .int (iI (q 4))]) := by rw [hf_1 _ (by omega)]; exact hO
  refine lv_aload_n X.1 X.2.1 dX11_half_4 rfl (lv_at hl 0 rfl) ?_
  refine x_bipush X (by decide) dX11_half_5 ?_
  refine x_iconst X dX11_half_7 ?_
  refine x_cv (x_runV (k := 2) (As := [.int (iI (10)), .int (iI (4))]) (rest := []) X hW (c_X11_copy l E A n _ g_1 i (10) (4) q N_1 hi hO (by omega) (by omega) (by omega) hN) (by omega) hO rfl gX11_half_X11_copy rfl rfl rfl (by decide +kernel) ⟨by decide, by decide⟩ rfl hl.1 rfl (Nat.le_of_ble_eq_true rfl) dX11_half_8 ⟨Nat.zero_le _, Nat.zero_le _⟩) hW (fun g_8 H locs hp_8 hW => ?_)
  obtain ⟨hN, hf_8⟩ := hp_8
  obtain ⟨N_8, hN_8⟩ : ∃ N9 : Nat → Int, N9 = va_up N_1 10 (N_1 (4)) := ⟨_, rfl⟩
  rw [← hN_8] at hN
  have hO : g_8 i = .inr (11, [.ref (A (i + 1)), .ref (A (i + 2)), .ref (A (i + 3)), .ref (A (i + 4)), .int (iI (q 0)), .ref (A (i + 5)), .ref (A (i + 6)), .ref (A (i + 7)), .ref (A (i + 8)), .int (iI (q 1)), .ref (A (i + 9)), .ref (A (i + 10)), .ref (A (i + 11)), .int (iI (q 2)), .ref (A (i + 12)), .ref (A (i + 13)), .int (iI (q 3)), .ref (A (i + 14)), .ref (A (i + 15)), .ref (A (i + 16)), .int (iI (q 4))]) := by rw [hf_8 _ (by omega)]; exact hO
  have v_10 : N_8 10 = ((foS (LkM L co) cz 1000 : Nat) : Int) := by rw [hN_8, va_up_self, v_4]
  have v_4 : N_8 4 = ((foS (LkM L co) cz 1000 : Nat) : Int) := by rw [hN_8, va_up_ne _ _ (by omega)]; exact v_4
  have v_5 : N_8 5 = ((prT (LkM L co) cz : Nat) : Int) := by rw [hN_8, va_up_ne _ _ (by omega)]; exact v_5
  have hoth : ∀ x, x < 2 → N_8 x = N x := fun x hx => (congrFun hN_8 x).trans ((va_up_ne _ _ (by omega)).trans (hoth x hx))
  have hfr : ∀ j, j ≠ i + 1 → g_8 j = g j := fun j hj => (hf_8 j hj).trans (hfr j hj)
  refine x_iconst X dX11_half_11 ?_
  refine x_seti (((0 : Nat) : Int)) rfl ?_
  refine lv_istore_n (lv' := [(1, .int (iI (((0 : Nat) : Int)))), (0, .ref (A (i)))]) X.1 X.2.1 dX11_half_12 rfl hl (by decide) rfl (fun ls hl => ?_)
  have loop_13 : ∀ (fuel : Nat) (b : Nat) (N1 : Nat → Int) (g1 : Nat → va_E) (H : Heap) (locs : List Loc) (ls : Array Slot), (1002 - b) < fuel → (b ≤ 1002) → (∀ c, c < b → ¬ HF (LkM L co) cz c) → (MN E A g1 i N1) → (N1 10 = ((foS (LkM L co) cz 1000 : Nat) : Int)) → (∀ x, x < 2 → N1 x = N x) → (∀ j, j ≠ i + 1 → g1 j = g j) → wH E (wF A n sz) A n s_ g1 H locs → lv_has ls 2 [(0, .ref (A (i))), (1, .int (iI (((b : Nat) : Int))))] → W p_ l e_ ({ frames := 6, cells := 0, slots := 0, locals := 220 } : Room) s_ m_ [.ref (A (i))].toArray below meth c_ H locs 0 0 (MQ below (va_Qi (fun r g' => HFR (LkM L co) cz r ∧ (∃ N' : Nat → Int, MN E A g' i N' ∧ ∀ x, x < 2 → N' x = N x) ∧ ∀ j, j ≠ i + 1 → g' j = g j) (wAt E A n) (wF A n sz)) [.ref (A (i))].toArray s_ 0 0 (wF A n sz)) (F0 m_ 13 ls []) := by
    intro fuel
    induction fuel with
    | zero => intro b N1 g1 H locs ls hm; exact absurd hm (Nat.not_lt_zero _)
    | succ fuel ih_13 =>
      intro b N1 g1 H locs ls hm hb hnb hN v_10 hoth hfr hW hl
      have hO : g1 i = .inr (11, [.ref (A (i + 1)), .ref (A (i + 2)), .ref (A (i + 3)), .ref (A (i + 4)), .int (iI (q 0)), .ref (A (i + 5)), .ref (A (i + 6)), .ref (A (i + 7)), .ref (A (i + 8)), .int (iI (q 1)), .ref (A (i + 9)), .ref (A (i + 10)), .ref (A (i + 11)), .int (iI (q 2)), .ref (A (i + 12)), .ref (A (i + 13)), .int (iI (q 3)), .ref (A (i + 14)), .ref (A (i + 15)), .ref (A (i + 16)), .int (iI (q 4))]) := (hfr _ (by omega)).trans hOg
      refine lv_iload_n X.1 X.2.1 dX11_half_13 rfl (lv_at hl 1 rfl) ?_
      refine x_sipush X (by decide) dX11_half_14 ?_
      refine x_icmp_gt (tgt := 51) X ⟨by omega, by omega⟩ ⟨by decide, by decide⟩ dX11_half_17 (by decide) (fun b_17 => ?_) (fun b_17 => ?_)
      · refine x_iconst X dX11_half_51 ?_
        exact x_iret X hr hlk hW (⟨Or.inr ⟨rfl, fun c hc => hnb c (by omega)⟩, ⟨N1, hN, hoth⟩, hfr⟩) dX11_half_52
      · have h2m : ((foM (LkM L co) (fun _ => b) cz cz : Nat) : Int) * 2 = ((2 * foM (LkM L co) (fun _ => b) cz cz : Nat) : Int) := by omega
        have hM1 := foM_le (br := fun _ => b) hcap0 cz (Nat.le_refl _)
        refine lv_aload_n X.1 X.2.1 dX11_half_20 rfl (lv_at hl 0 rfl) ?_
        refine lv_iload_n X.1 X.2.1 dX11_half_21 rfl (lv_at hl 1 rfl) ?_
        refine x_cv (x_runV (k := 1) (As := [.int (iI (((b : Nat) : Int)))]) (rest := []) X hW (c_X11_worthOf l E A n _ g1 i q N1 bk L cz co br (((b : Nat) : Int)) hi hO hN (hB.frame (fun j a9 b9 => hfr j (by omega))) hq1 (hC.frame (hfr _ (by omega)) (hfr _ (by omega))) (by omega) (by omega)) (by omega) hO rfl gX11_half_X11_worthOf rfl rfl rfl (by decide +kernel) ⟨by decide, by decide⟩ rfl hl.1 rfl (Nat.le_of_ble_eq_true rfl) dX11_half_22 ⟨Nat.zero_le _, Nat.zero_le _⟩) hW (fun g_22 H locs hp_22 hW => ?_)
        obtain ⟨⟨N_22, hN, v_2, v_3, ho_22⟩, hf_22⟩ := hp_22
        have hfr : ∀ j, j ≠ i + 1 → g_22 j = g j := fun j hj => (hf_22 j hj).trans (hfr j hj)
        have hO : g_22 i = .inr (11, [.ref (A (i + 1)), .ref (A (i + 2)), .ref (A (i + 3)), .ref (A (i + 4)), .int (iI (q 0)), .ref (A (i + 5)), .ref (A (i + 6)), .ref (A (i + 7)), .ref (A (i + 8)), .int (iI (q 1)), .ref (A (i + 9)), .ref (A (i + 10)), .ref (A (i + 11)), .int (iI (q 2)), .ref (A (i + 12)), .ref (A (i + 13)), .int (iI (q 3)), .ref (A (i + 14)), .ref (A (i + 15)), .ref (A (i + 16)), .int (iI (q 4))]) := by rw [hf_22 _ (by omega)]; exact hO
        rw [lwB_some] at v_2
        have hoth : ∀ x, x < 2 → N_22 x = N x := fun x hx => (ho_22 x (by omega)).trans (hoth x hx)
        have v_10 := (ho_22 10 (by omega)).trans v_10
        refine lv_aload_n X.1 X.2.1 dX11_half_25 rfl (lv_at hl 0 rfl) ?_
        refine x_iconst X dX11_half_26 ?_
        refine x_ldc2 X (2) (by decide) lk_0 dX11_half_27 ?_
        refine x_cv (x_runV (k := 2) (As := [.int (iI (2)), .long (lI (2))]) (rest := []) X hW (c_X11_times l E A n _ g_22 i (2) q N_22 (2) hi hO (by omega) hN (by decide) (by decide) (by rw [v_2, h2m]; omega) (by rw [v_2, h2m]; omega)) (by omega) hO rfl gX11_half_X11_times rfl rfl rfl (by decide +kernel) ⟨by decide, by decide⟩ rfl hl.1 rfl (Nat.le_of_ble_eq_true rfl) dX11_half_30 ⟨Nat.zero_le _, Nat.zero_le _⟩) hW (fun g_30 H locs hp_30 hW => ?_)
        obtain ⟨hN, hf_30⟩ := hp_30
        obtain ⟨N_30, hN_30⟩ : ∃ N9 : Nat → Int, N9 = va_up N_22 2 (N_22 2 * 2) := ⟨_, rfl⟩
        rw [← hN_30] at hN
        have hO : g_30 i = .inr (11, [.ref (A (i + 1)), .ref (A (i + 2)), .ref (A (i + 3)), .ref (A (i + 4)), .int (iI (q 0)), .ref (A (i + 5)), .ref (A (i + 6)), .ref (A (i + 7)), .ref (A (i + 8)), .int (iI (q 1)), .ref (A (i + 9)), .ref (A (i + 10)), .ref (A (i + 11)), .int (iI (q 2)), .ref (A (i + 12)), .ref (A (i + 13)), .int (iI (q 3)), .ref (A (i + 14)), .ref (A (i + 15)), .ref (A (i + 16)), .int (iI (q 4))]) := by rw [hf_30 _ (by omega)]; exact hO
        have v_2 : N_30 2 = ((2 * foM (LkM L co) (fun _ => b) cz cz : Nat) : Int) := by rw [hN_30, va_up_self, v_2, h2m]
        have v_10 : N_30 10 = ((foS (LkM L co) cz 1000 : Nat) : Int) := by rw [hN_30, va_up_ne _ _ (by omega)]; exact v_10
        have hoth : ∀ x, x < 2 → N_30 x = N x := fun x hx => (congrFun hN_30 x).trans ((va_up_ne _ _ (by omega)).trans (hoth x hx))
        have hfr : ∀ j, j ≠ i + 1 → g_30 j = g j := fun j hj => (hf_30 j hj).trans (hfr j hj)
        refine lv_aload_n X.1 X.2.1 dX11_half_33 rfl (lv_at hl 0 rfl) ?_
        refine x_iconst X dX11_half_34 ?_
        refine x_bipush X (by decide) dX11_half_35 ?_
        refine x_ci (x_runV (k := 2) (As := [.int (iI (2)), .int (iI (10))]) (rest := []) X hW (c_X11_compared l E A n _ g_30 i (2) (10) q N_30 hi hO (by omega) (by omega) hN) (by omega) hO rfl gX11_half_X11_compared rfl rfl rfl (by decide +kernel) ⟨by decide, by decide⟩ rfl hl.1 rfl (Nat.le_of_ble_eq_true rfl) dX11_half_37 ⟨Nat.zero_le _, Nat.zero_le _⟩) hW (fun r_37 g_37 H locs hp_37 hW => ?_)
        obtain ⟨hr_37, he_37⟩ := hp_37
        rw [he_37] at hW
        rw [v_2, v_10] at hr_37
        subst hr_37
        refine x_if_lt (tgt := 45) X (cmp_rng _ _) dX11_half_40 (by decide) (fun b_40 => ?_) (fun b_40 => ?_)
        · have hno := cmp_lt b_40
          refine lv_iinc (v := iI (((b + 1 : Nat) : Int))) (lv' := [(1, .int (iI (((b + 1 : Nat) : Int)))), (0, .ref (A (i)))]) X.1 X.2.1 dX11_half_45 hl (k := 1) rfl (by rw [show (Int32.ofInt (1)) = iI (1) from rfl, iI_add]; rfl) (by decide) rfl (fun ls hl => ?_)
          refine lv_goto (tgt := 13) X.1 X.2.1 dX11_half_48 (by decide) ?_
          exact ih_13 (b + 1) N_30 g_30 _ _ _ (by omega) (by omega) (fun c hc => if ec : c = b then (by rw [ec]; unfold HF; omega) else hnb c (by omega)) hN v_10 hoth hfr hW (lv_sub hl [1, 0] rfl)
        · have hys := cmp_ge b_40
          refine lv_iload_n X.1 X.2.1 dX11_half_43 rfl (lv_at hl 1 rfl) ?_
          exact x_iret X hr hlk hW (⟨Or.inl ⟨b, by omega, rfl, hys, hnb⟩, ⟨N_30, hN, hoth⟩, hfr⟩) dX11_half_44
  exact loop_13 _ 0 N_8 g_8 _ _ _ (Nat.lt_succ_self _) (by omega) (fun c hc => absurd hc (Nat.not_lt_zero _)) hN v_10 hoth hfr hW (lv_sub hl [1, 0] rfl)
