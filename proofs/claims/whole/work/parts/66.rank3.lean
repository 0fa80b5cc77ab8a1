/-- from the last of nn back by d: what a yes is worth by its rank, and what a no is -/
def rkY (py : Nat → Nat) (nn : Nat) : Nat → Nat → Nat
  | 0, s => py s
  | d + 1, s => unS (nn - 1 - d) (rkY py nn d) s
def rkN (py : Nat → Nat) (nn : Nat) : Nat → Nat
  | 0 => 0
  | d + 1 => gaS (rkN py nn d) (rkY py nn d) (nn - d)
theorem rk_cap {py : Nat → Nat} {nn : Nat} (hn : nn ≤ 20) (hp : ∀ s, 1 ≤ s → s ≤ nn → py s ≤ 1000) : ∀ d, d ≤ nn → rkN py nn d ≤ 1000 * 20 ^ d ∧ ∀ s, 1 ≤ s → s + d ≤ nn → rkY py nn d s ≤ 1000 * 20 ^ d := by
  intro d
  induction d with
  | zero => intro _; exact ⟨Nat.zero_le _, fun s a b => by have := hp s a (by omega); show py s ≤ 1000 * 1; omega⟩
  | succ d ih =>
    intro hd
    obtain ⟨h1, h2⟩ := ih (by omega)
    have e : 1000 * 20 ^ (d + 1) = 20 * (1000 * 20 ^ d) := by rw [Nat.pow_succ, Nat.mul_comm (20 ^ d) 20, Nat.mul_left_comm]
    rw [e]
    refine ⟨?_, fun s a b => ?_⟩
    · have := gaS_le (nv := rkN py nn d) (yv := rkY py nn d) (nn - d) h1 (fun s a b => h2 s a (by omega))
      exact Nat.le_trans this (Nat.mul_le_mul_right _ (by omega))
    · show unS (nn - 1 - d) (rkY py nn d) s ≤ _
      rw [unS_in a (by omega)]
      have a1 := Nat.mul_le_mul_right (nn - 1 - d + 1 - s) (h2 s a (by omega))
      have a2 := Nat.mul_le_mul_right s (h2 (s + 1) (by omega) (by omega))
      have a3 : 1000 * 20 ^ d * (nn - 1 - d + 1 - s) + 1000 * 20 ^ d * s ≤ 20 * (1000 * 20 ^ d) := by
        rw [← Nat.mul_add, Nat.mul_comm 20]; exact Nat.mul_le_mul_left _ (by omega)
      exact Nat.le_trans (Nat.add_le_add a1 a2) a3
theorem rk_45 {d : Nat} (h : d ≤ 20) : 1000 * 20 ^ d ≤ 10 ^ 45 := Nat.le_trans (Nat.mul_le_mul_left _ (Nat.pow_le_pow_right (by decide) h)) (by decide)

set_option maxHeartbeats 4000000 in
set_option maxRecDepth 100000 in
/-- comeBackTo -/
theorem c_X7_comeBackTo (l : Launch) (E : wE) (A : Nat → Nat) (n sz : Nat) (g : Nat → va_E) (i : Nat) (fy : Nat → Option Nat) (fp : Nat → Int32) (py : Nat → Nat) (nn jj : Nat) (hi : i + 48 < n) (hC : RkC E A g i fy) (h1 : g (i + 1) = aI E 21 fp) (hfp : ∀ k, k < 21 → fp k = iI ((py k : Nat) : Int) ∧ py k ≤ 1000) (hX3 : NatX E A g (i + 3)) (hX5 : NatX E A g (i + 5)) (hXY : ∀ y, y < 21 → NatX E A g (i + 7 + 2 * y)) (hn1 : 1 ≤ nn) (hn2 : nn ≤ 20) (hj1 : 1 ≤ jj) (hj2 : jj ≤ nn) : Met l yX7_comeBackTo wsX7_comeBackTo ({ frames := 4, cells := 0, slots := 0, locals := 160 } : Room) (va_Pc [.ref (A (i)), .int (iI ((nn : Int))), .int (iI ((jj : Int)))] (wPre E A n sz g)) (va_Qv (fun g' => NatV E A g' (i + 3) (rkN py nn (nn - jj)) ∧ (∀ y, 1 ≤ y → y ≤ jj → NatV E A g' (i + 7 + 2 * y) (rkY py nn (nn - jj) y)) ∧ NatX E A g' (i + 5) ∧ (∀ y, y < 21 → NatX E A g' (i + 7 + 2 * y)) ∧ ∀ j, (j < i + 3 ∨ i + 48 < j) → g' j = g j) (wAt E A n) (wF A n sz)) 0 0 (wF A n sz) := by
  refine x_met (cc := cX7_comeBackTo) (maxL := 4) (ret := none) [.ref (A (i)), .int (iI ((nn : Int))), .int (iI ((jj : Int)))] (by decide) rfl (Nat.le_of_ble_eq_true rfl) ?_
  intro p e s m below meth c ls X hr hlk hnm hsz hW hl
  have hl : lv_has ls 4 [(0, .ref (A (i))), (1, .int (iI ((nn : Int)))), (2, .int (iI ((jj : Int))))] := hl
  have lk_0 : ∀ w ∈ wsX70, w ∈ wsX7_comeBackTo := by decide +kernel
  have lk_1 : Cond.fieldLink RX7 22 (TX7 2).1 (TX7 2).2.1 (TX7 2).2.2.1 ∈ wsX7_comeBackTo := by decide +kernel
  have lk_2 : Cond.methodLink RX7 59 Lib.Math.min.name ∈ wsX7_comeBackTo := by decide +kernel
  have lk_3 : Cond.static Lib.Math.min.name ∈ wsX7_comeBackTo := by decide +kernel
  have lk_4 : Cond.initialized "java/lang/Math" ∈ wsX7_comeBackTo := by decide +kernel
  have lk_5 : Cond.code Lib.Math.min.name Lib.Math.min.code 2 (some .int) ∈ wsX7_comeBackTo := by decide +kernel
  have lk_6 : Cond.fieldLink RX7 17 (TX7 1).1 (TX7 1).2.1 (TX7 1).2.2.1 ∈ wsX7_comeBackTo := by decide +kernel
  have lk_7 : Cond.fieldLink RX7 9 (TX7 0).1 (TX7 0).2.1 (TX7 0).2.2.1 ∈ wsX7_comeBackTo := by decide +kernel
  obtain ⟨h0, h2, hfy⟩ := hC
  have h0g := h0
  have h2g := h2
  have h1g := h1
  have n_3 := hX3
  have n_5 := hX5
  have hfr : ∀ j, (j < i + 3 ∨ i + 48 < j) → g j = g j := fun _ _ => rfl
  have hcap := rk_cap (py := py) hn2 (fun s a b => (hfp s (by omega)).2)
  refine lv_aload_n X.1 X.2.1 dX7_comeBackTo_0 rfl (lv_at hl 0 rfl) ?_
  refine x_get (C := RX7) (T := TX7) (N := 4) X hW (by omega) h0 rfl lk_0 2 (by decide) lk_1 rfl dX7_comeBackTo_1 ?_
  refine x_lconst X 0 (by decide) dX7_comeBackTo_4 ?_
  refine x_cv (x_runV (k := 1) (As := [.long (lI (0))]) (rest := []) X hW (c_X5_put l E A n _ g (i + 3) 0 (by omega) n_3 (by decide)) (by omega) n_3.1 rfl gX7_comeBackTo_X5_put rfl rfl rfl (by decide +kernel) ⟨by decide, by decide⟩ rfl hl.1 rfl (Nat.le_of_ble_eq_true rfl) dX7_comeBackTo_5 ⟨Nat.zero_le _, Nat.zero_le _⟩) hW (fun g_5 H locs hp_5 hW => ?_)
  obtain ⟨n_3, hf_5⟩ := hp_5
  have h0 : g_5 i = .inr (7, [.ref (A (i + 1)), .ref (A (i + 2)), .ref (A (i + 3)), .ref (A (i + 5))]) := by rw [hf_5 _ (by omega)]; exact h0
  have h1 : g_5 (i + 1) = aI E 21 fp := by rw [hf_5 _ (by omega)]; exact h1
  have h2 : g_5 (i + 2) = aR E 3 21 fy := by rw [hf_5 _ (by omega)]; exact h2
  have n_5 := n_5.frame (hf_5 _ (by omega)) (hf_5 _ (by omega))
  have hXY : ∀ y, y < 21 → NatX E A g_5 (i + 7 + 2 * y) := fun y a => (hXY y a).frame (hf_5 _ (by omega)) (hf_5 _ (by omega))
  have hfr : ∀ j, (j < i + 3 ∨ i + 48 < j) → g_5 j = g j := fun j hj => (hf_5 j (by omega)).trans (hfr j hj)
  refine x_iconst X dX7_comeBackTo_8 ?_
  refine x_seti (((1 : Nat) : Int)) rfl ?_
  refine lv_istore_n (lv' := [(3, .int (iI (((1 : Nat) : Int)))), (0, .ref (A (i))), (1, .int (iI ((nn : Int)))), (2, .int (iI ((jj : Int))))]) X.1 X.2.1 dX7_comeBackTo_9 rfl hl (by decide) rfl (fun ls hl => ?_)
  have loop_10 : ∀ (fuel : Nat) (q : Nat) (g1 : Nat → va_E) (H : Heap) (locs : List Loc) (ls : Array Slot), (22 - q) < fuel → (1 ≤ q) → (q ≤ nn + 1) → (NatV E A g1 (i + 3) 0) → (NatX E A g1 (i + 5)) → (∀ y, 1 ≤ y → y < q → NatV E A g1 (i + 7 + 2 * y) (py y)) → (∀ y, y < 21 → NatX E A g1 (i + 7 + 2 * y)) → (∀ j, (j < i + 3 ∨ i + 48 < j) → g1 j = g j) → wH E (wF A n sz) A n s g1 H locs → lv_has ls 4 [(0, .ref (A (i))), (1, .int (iI ((nn : Int)))), (2, .int (iI ((jj : Int)))), (3, .int (iI ((q : Int))))] → W p l e ({ frames := 4, cells := 0, slots := 0, locals := 160 } : Room) s m [.ref (A (i)), .int (iI ((nn : Int))), .int (iI ((jj : Int)))].toArray below meth c H locs 0 0 (MQ below (va_Qv (fun g' => NatV E A g' (i + 3) (rkN py nn (nn - jj)) ∧ (∀ y, 1 ≤ y → y ≤ jj → NatV E A g' (i + 7 + 2 * y) (rkY py nn (nn - jj) y)) ∧ NatX E A g' (i + 5) ∧ (∀ y, y < 21 → NatX E A g' (i + 7 + 2 * y)) ∧ ∀ j, (j < i + 3 ∨ i + 48 < j) → g' j = g j) (wAt E A n) (wF A n sz)) [.ref (A (i)), .int (iI ((nn : Int))), .int (iI ((jj : Int)))].toArray s 0 0 (wF A n sz)) (F0 m 10 ls []) := by
    intro fuel
    induction fuel with
    | zero => intro q g1 H locs ls hm; exact absurd hm (Nat.not_lt_zero _)
    | succ fuel ih_10 =>
      intro q g1 H locs ls hm hq1 hqn n_3 n_5 hY hXY hfr hW hl
      have h0 : g1 i = .inr (7, [.ref (A (i + 1)), .ref (A (i + 2)), .ref (A (i + 3)), .ref (A (i + 5))]) := (hfr _ (by omega)).trans h0g
      have h2 : g1 (i + 2) = aR E 3 21 fy := (hfr _ (by omega)).trans h2g
      have h1 : g1 (i + 1) = aI E 21 fp := (hfr _ (by omega)).trans h1g
      have hC : RkC E A g1 i fy := ⟨h0, h2, hfy⟩
      refine lv_iload_n X.1 X.2.1 dX7_comeBackTo_10 rfl (lv_at hl 3 rfl) ?_
      refine lv_iload_n X.1 X.2.1 dX7_comeBackTo_11 rfl (lv_at hl 1 rfl) ?_
      refine x_bipush X (by decide) dX7_comeBackTo_12 ?_
      refine x_mmini X hl.1 ⟨by omega, by omega⟩ ⟨by decide, by decide⟩ lk_2 lk_3 lk_4 lk_5 (by decide) (Nat.le_of_ble_eq_true rfl) (Nat.zero_le _) (Nat.zero_le _) dX7_comeBackTo_14 ?_
      refine x_icmp_gt (tgt := 42) X ⟨by omega, by omega⟩ ⟨by split <;> omega, by split <;> omega⟩ dX7_comeBackTo_17 (by decide) (fun b_17 => ?_) (fun b_17 => ?_)
      · have hqe : q = nn + 1 := by
          split at b_17 <;> omega
        refine lv_iload_n X.1 X.2.1 dX7_comeBackTo_42 rfl (lv_at hl 1 rfl) ?_
        refine x_bipush X (by decide) dX7_comeBackTo_43 ?_
        refine x_mmini X hl.1 ⟨by omega, by omega⟩ ⟨by decide, by decide⟩ lk_2 lk_3 lk_4 lk_5 (by decide) (Nat.le_of_ble_eq_true rfl) (Nat.zero_le _) (Nat.zero_le _) dX7_comeBackTo_45 ?_
        refine x_iconst X dX7_comeBackTo_48 ?_
        refine x_isub X dX7_comeBackTo_49 ?_
        refine x_seti (((nn : Nat) : Int) - 1 - ((0 : Nat) : Int)) (by split <;> omega) ?_
        refine lv_istore_n (lv' := [(3, .int (iI (((nn : Nat) : Int) - 1 - ((0 : Nat) : Int)))), (0, .ref (A (i))), (1, .int (iI ((nn : Int)))), (2, .int (iI ((jj : Int))))]) X.1 X.2.1 dX7_comeBackTo_50 rfl hl (by decide) rfl (fun ls hl => ?_)
        have loop_51 : ∀ (fuel : Nat) (d : Nat) (g2 : Nat → va_E) (H : Heap) (locs : List Loc) (ls : Array Slot), (nn - d) < fuel → (d + jj ≤ nn) → (NatV E A g2 (i + 3) (rkN py nn d)) → (NatX E A g2 (i + 5)) → (∀ y, 1 ≤ y → y + d ≤ nn → NatV E A g2 (i + 7 + 2 * y) (rkY py nn d y)) → (∀ y, y < 21 → NatX E A g2 (i + 7 + 2 * y)) → (∀ j, (j < i + 3 ∨ i + 48 < j) → g2 j = g j) → wH E (wF A n sz) A n s g2 H locs → lv_has ls 4 [(0, .ref (A (i))), (1, .int (iI ((nn : Int)))), (2, .int (iI ((jj : Int)))), (3, .int (iI (((nn : Nat) : Int) - 1 - (d : Int))))] → W p l e ({ frames := 4, cells := 0, slots := 0, locals := 160 } : Room) s m [.ref (A (i)), .int (iI ((nn : Int))), .int (iI ((jj : Int)))].toArray below meth c H locs 0 0 (MQ below (va_Qv (fun g' => NatV E A g' (i + 3) (rkN py nn (nn - jj)) ∧ (∀ y, 1 ≤ y → y ≤ jj → NatV E A g' (i + 7 + 2 * y) (rkY py nn (nn - jj) y)) ∧ NatX E A g' (i + 5) ∧ (∀ y, y < 21 → NatX E A g' (i + 7 + 2 * y)) ∧ ∀ j, (j < i + 3 ∨ i + 48 < j) → g' j = g j) (wAt E A n) (wF A n sz)) [.ref (A (i)), .int (iI ((nn : Int))), .int (iI ((jj : Int)))].toArray s 0 0 (wF A n sz)) (F0 m 51 ls []) := by
          intro fuel
          induction fuel with
          | zero => intro d g2 H locs ls hm; exact absurd hm (Nat.not_lt_zero _)
          | succ fuel ih_51 =>
            intro d g2 H locs ls hm hd n_3 n_5 hY hXY hfr hW hl
            have h0 : g2 i = .inr (7, [.ref (A (i + 1)), .ref (A (i + 2)), .ref (A (i + 3)), .ref (A (i + 5))]) := (hfr _ (by omega)).trans h0g
            have h2 : g2 (i + 2) = aR E 3 21 fy := (hfr _ (by omega)).trans h2g
            have h1 : g2 (i + 1) = aI E 21 fp := (hfr _ (by omega)).trans h1g
            have hC : RkC E A g2 i fy := ⟨h0, h2, hfy⟩
            have hcp := hcap d (by omega)
            have h45 := rk_45 (d := d) (by omega)
            refine lv_iload_n X.1 X.2.1 dX7_comeBackTo_51 rfl (lv_at hl 3 rfl) ?_
            refine lv_iload_n X.1 X.2.1 dX7_comeBackTo_52 rfl (lv_at hl 2 rfl) ?_
            refine x_icmp_lt (tgt := 74) X ⟨by omega, by omega⟩ ⟨by omega, by omega⟩ dX7_comeBackTo_53 (by decide) (fun b_53 => ?_) (fun b_53 => ?_)
            · have hde : d = nn - jj := by omega
              exact x_vret X hr hlk hW (⟨by rw [← hde]; exact n_3, fun y a b => by rw [← hde]; exact hY y a (by omega), n_5, hXY, hfr⟩) dX7_comeBackTo_74
            · refine lv_aload_n X.1 X.2.1 dX7_comeBackTo_56 rfl (lv_at hl 0 rfl) ?_
              refine lv_iload_n X.1 X.2.1 dX7_comeBackTo_57 rfl (lv_at hl 3 rfl) ?_
              refine x_iconst X dX7_comeBackTo_58 ?_
              refine x_iadd X dX7_comeBackTo_59 ?_
              refine x_seti (((nn - d : Nat) : Int)) (by omega) ?_
              refine x_cv (x_runV (k := 1) (As := [.int (iI (((nn - d : Nat) : Int)))]) (rest := []) X hW (c_X7_goAhead l E A n _ g2 i fy (nn - d) (rkN py nn d) (rkY py nn d) hi hC (by omega) (by omega) n_3 (fun s a b => hY s a (by omega)) n_5 (by omega) (fun s a b => Nat.le_trans (hcp.2 s a (by omega)) h45)) (by omega) h0 rfl gX7_comeBackTo_X7_goAhead rfl rfl rfl (by decide +kernel) ⟨by decide, by decide⟩ rfl hl.1 rfl (Nat.le_of_ble_eq_true rfl) dX7_comeBackTo_60 ⟨Nat.zero_le _, Nat.zero_le _⟩) hW (fun g_60 H locs hp_60 hW => ?_)
              obtain ⟨n_3, n_5, hf_60⟩ := hp_60
              have n_3 : NatV E A g_60 (i + 3) (rkN py nn (d + 1)) := n_3
              have h0 : g_60 i = .inr (7, [.ref (A (i + 1)), .ref (A (i + 2)), .ref (A (i + 3)), .ref (A (i + 5))]) := by rw [hf_60 _ (by omega)]; exact h0
              have h1 : g_60 (i + 1) = aI E 21 fp := by rw [hf_60 _ (by omega)]; exact h1
              have h2 : g_60 (i + 2) = aR E 3 21 fy := by rw [hf_60 _ (by omega)]; exact h2
              have hY : ∀ y, 1 ≤ y → y + d ≤ nn → NatV E A g_60 (i + 7 + 2 * y) (rkY py nn d y) := fun y a b => (hY y a b).frame (hf_60 _ (by omega)) (hf_60 _ (by omega))
              have hXY : ∀ y, y < 21 → NatX E A g_60 (i + 7 + 2 * y) := fun y a => (hXY y a).frame (hf_60 _ (by omega)) (hf_60 _ (by omega))
              have hfr : ∀ j, (j < i + 3 ∨ i + 48 < j) → g_60 j = g j := fun j hj => (hf_60 j (by omega)).trans (hfr j hj)
              have hC : RkC E A g_60 i fy := ⟨h0, h2, hfy⟩
              refine lv_aload_n X.1 X.2.1 dX7_comeBackTo_63 rfl (lv_at hl 0 rfl) ?_
              refine lv_iload_n X.1 X.2.1 dX7_comeBackTo_64 rfl (lv_at hl 3 rfl) ?_
              refine x_seti (((nn - 1 - d : Nat) : Int)) (by omega) ?_
              refine x_cv (x_runV (k := 1) (As := [.int (iI (((nn - 1 - d : Nat) : Int)))]) (rest := []) X hW (c_X7_unseeNext l E A n _ g_60 i fy (nn - 1 - d) (rkY py nn d) hi hC (by omega) (by omega) (fun y a b => hY y a (by omega)) hXY (fun s a b => Nat.le_trans (hcp.2 s a (by omega)) h45)) (by omega) h0 rfl gX7_comeBackTo_X7_unseeNext rfl rfl rfl (by decide +kernel) ⟨by decide, by decide⟩ rfl hl.1 rfl (Nat.le_of_ble_eq_true rfl) dX7_comeBackTo_65 ⟨Nat.zero_le _, Nat.zero_le _⟩) hW (fun g_65 H locs hp_65 hW => ?_)
              obtain ⟨hY2, hXY, hf_65⟩ := hp_65
              have h0 : g_65 i = .inr (7, [.ref (A (i + 1)), .ref (A (i + 2)), .ref (A (i + 3)), .ref (A (i + 5))]) := by rw [hf_65 _ (by omega)]; exact h0
              have h1 : g_65 (i + 1) = aI E 21 fp := by rw [hf_65 _ (by omega)]; exact h1
              have h2 : g_65 (i + 2) = aR E 3 21 fy := by rw [hf_65 _ (by omega)]; exact h2
              have hY : ∀ y, 1 ≤ y → y + (d + 1) ≤ nn → NatV E A g_65 (i + 7 + 2 * y) (rkY py nn (d + 1) y) := fun y a b => hY2 y a (by omega)
              have n_3 := n_3.frame (hf_65 _ (by omega)) (hf_65 _ (by omega))
              have n_5 := n_5.frame (hf_65 _ (by omega)) (hf_65 _ (by omega))
              have hfr : ∀ j, (j < i + 3 ∨ i + 48 < j) → g_65 j = g j := fun j hj => (hf_65 j (by omega)).trans (hfr j hj)
              refine lv_iinc (v := iI (((nn : Nat) : Int) - 1 - ((d + 1 : Nat) : Int))) (lv' := [(3, .int (iI (((nn : Nat) : Int) - 1 - ((d + 1 : Nat) : Int)))), (0, .ref (A (i))), (1, .int (iI ((nn : Int)))), (2, .int (iI ((jj : Int))))]) X.1 X.2.1 dX7_comeBackTo_68 hl (k := 3) rfl (by rw [show (Int32.ofInt (-1)) = iI (-1) from rfl, iI_add]; congr 1; omega) (by decide) rfl (fun ls hl => ?_)
              refine lv_goto (tgt := 51) X.1 X.2.1 dX7_comeBackTo_71 (by decide) ?_
              exact ih_51 (d + 1) g_65 _ _ _ (by omega) (by omega) n_3 n_5 hY hXY hfr hW (lv_sub hl [1, 2, 3, 0] rfl)
        exact loop_51 _ 0 g1 _ _ _ (Nat.lt_succ_self _) (by omega) n_3 n_5 (fun y a b => hY y a (by omega)) hXY hfr hW (lv_sub hl [1, 2, 3, 0] rfl)
      · have hql : q ≤ nn := Decidable.byContradiction (fun z9 => b_17 (by split <;> omega))
        have hpq := hfp q (by omega)
        refine lv_aload_n X.1 X.2.1 dX7_comeBackTo_20 rfl (lv_at hl 0 rfl) ?_
        refine x_get (C := RX7) (T := TX7) (N := 4) X hW (by omega) h0 rfl lk_0 1 (by decide) lk_6 rfl dX7_comeBackTo_21 ?_
        refine lv_iload_n X.1 X.2.1 dX7_comeBackTo_24 rfl (lv_at hl 3 rfl) ?_
        refine x_aald X hW (by omega) h2 rfl (j := i + 7 + 2 * q) q (by omega) (by omega) (by decide) (hfy q (by omega)) dX7_comeBackTo_25 ?_
        refine lv_aload_n X.1 X.2.1 dX7_comeBackTo_26 rfl (lv_at hl 0 rfl) ?_
        refine x_get (C := RX7) (T := TX7) (N := 4) X hW (by omega) h0 rfl lk_0 0 (by decide) lk_7 rfl dX7_comeBackTo_27 ?_
        refine lv_iload_n X.1 X.2.1 dX7_comeBackTo_30 rfl (lv_at hl 3 rfl) ?_
        refine x_iald X hW (by omega) h1 (v := iI (((py q : Nat) : Int))) q (by omega) (by omega) (by decide) hpq.1 dX7_comeBackTo_31 ?_
        refine x_i2l X ⟨by omega, by omega⟩ dX7_comeBackTo_32 ?_
        have nq := hXY q (by omega)
        refine x_cv (x_runV (k := 1) (As := [.long (lI (((py q : Nat) : Int)))]) (rest := []) X hW (c_X5_put l E A n _ g1 (i + 7 + 2 * q) (py q) (by omega) nq (by omega)) (by omega) nq.1 rfl gX7_comeBackTo_X5_put rfl rfl rfl (by decide +kernel) ⟨by decide, by decide⟩ rfl hl.1 rfl (Nat.le_of_ble_eq_true rfl) dX7_comeBackTo_33 ⟨Nat.zero_le _, Nat.zero_le _⟩) hW (fun g_33 H locs hp_33 hW => ?_)
        obtain ⟨nv9, hf_33⟩ := hp_33
        have h0 : g_33 i = .inr (7, [.ref (A (i + 1)), .ref (A (i + 2)), .ref (A (i + 3)), .ref (A (i + 5))]) := by rw [hf_33 _ (by omega)]; exact h0
        have h1 : g_33 (i + 1) = aI E 21 fp := by rw [hf_33 _ (by omega)]; exact h1
        have h2 : g_33 (i + 2) = aR E 3 21 fy := by rw [hf_33 _ (by omega)]; exact h2
        have hXY : ∀ y, y < 21 → NatX E A g_33 (i + 7 + 2 * y) := fun y hy => if e9 : y = q then (by rw [e9]; exact nv9.any) else (hXY y hy).frame (hf_33 _ (by omega)) (hf_33 _ (by omega))
        have hY : ∀ y, 1 ≤ y → y < q + 1 → NatV E A g_33 (i + 7 + 2 * y) (py y) := fun y hy0 hy => if e9 : y = q then (by rw [e9]; exact nv9) else (hY y hy0 (by omega)).frame (hf_33 _ (by omega)) (hf_33 _ (by omega))
        have n_3 := n_3.frame (hf_33 _ (by omega)) (hf_33 _ (by omega))
        have n_5 := n_5.frame (hf_33 _ (by omega)) (hf_33 _ (by omega))
        have hfr : ∀ j, (j < i + 3 ∨ i + 48 < j) → g_33 j = g j := fun j hj => (hf_33 j (by omega)).trans (hfr j hj)
        refine lv_iinc (v := iI (((q + 1 : Nat) : Int))) (lv' := [(3, .int (iI (((q + 1 : Nat) : Int)))), (0, .ref (A (i))), (1, .int (iI ((nn : Int)))), (2, .int (iI ((jj : Int))))]) X.1 X.2.1 dX7_comeBackTo_36 hl (k := 3) rfl (by rw [show (Int32.ofInt (1)) = iI (1) from rfl, iI_add]; rfl) (by decide) rfl (fun ls hl => ?_)
        refine lv_goto (tgt := 10) X.1 X.2.1 dX7_comeBackTo_39 (by decide) ?_
        exact ih_10 (q + 1) g_33 _ _ _ (by omega) (by omega) (by omega) n_3 n_5 hY hXY hfr hW (lv_sub hl [1, 2, 3, 0] rfl)
  exact loop_10 _ 1 g_5 _ _ _ (Nat.lt_succ_self _) (Nat.le_refl _) (by omega) n_3 n_5 (fun y a b => absurd a (by omega)) hXY hfr hW (lv_sub hl [1, 2, 3, 0] rfl)
