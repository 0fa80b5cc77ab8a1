/-! ===== the static row of prime powers ===== -/
def ppV (k : Nat) : Nat := [32, 27, 25, 49, 11, 13, 17, 19, 23, 29, 31, 37, 41, 43, 47, 53, 59].getD k 1
theorem ppV_eq : ∀ k, k < 17 → ppL.getD k 0 = iI ((ppV k : Nat) : Int) := by
  intro k hk
  rcases (show k = 0 ∨ k = 1 ∨ k = 2 ∨ k = 3 ∨ k = 4 ∨ k = 5 ∨ k = 6 ∨ k = 7 ∨ k = 8 ∨ k = 9 ∨ k = 10 ∨ k = 11 ∨ k = 12 ∨ k = 13 ∨ k = 14 ∨ k = 15 ∨ k = 16 by omega) with e | e | e | e | e | e | e | e | e | e | e | e | e | e | e | e | e <;> subst e <;> decide
theorem ppV_rng : ∀ k, k < 17 → 1 ≤ ppV k ∧ ppV k ≤ 59 := by decide
section
variable {p : Program} {l : Launch} {e : Env} {R : Room} {s : State} {m : MethodId} {args : Array Value} {below : List Frame} {meth : Method} {c : Code} {H : Heap} {locs : List Loc} {cells slots : Nat} {Q : State → Prop} {cc : ByteArray} {nL : Nat} {Ts : List Cond} {own : String} {pc : Nat} {ls : Array Slot} {rest st0 : List Value} {E : wE} {F : Nat → Prop} {A : Nat → Nat} {n i : Nat} {g : Nat → va_E}
theorem x_getpp (X : CallFix p m c cc nL s args Ts own) (hW : wH E F A n s g H locs) {index : Nat} (hl : Cond.fieldLink own index RX6 "PRIME_POWERS" "[I" ∈ Ts) (hdg : decode cc pc = .ok (.getstatic index, 3)) (kk : W p l e R s m args below meth c H locs cells slots Q (F0 m (pc + 3) ls (.ref E.2.2 :: rest))) : W p l e R s m args below meth c H locs cells slots Q (F0 m pc ls rest) :=
  va_gets X.1 X.2.1 hW.2.2.2.2.2.1.1 hW.2.2.1 X.2.2.2.1 (X.2.2.2.2 _ hl) (fun _ h => h) hdg kk
theorem x_pplen (X : CallFix p m c cc nL s args Ts own) (hW : wH E F A n s g H locs) (hdg : decode cc pc = .ok (.arraylength, 1)) (kk : W p l e R s m args below meth c H locs cells slots Q (F0 m (pc + 1) ls (.int (iI 17) :: rest))) : W p l e R s m args below meth c H locs cells slots Q (F0 m pc ls (.ref E.2.2 :: rest)) :=
  va_tlen X.1 X.2.1 hW.2.2.2.2.2.1.2 hW.2.2.1 (by decide) hdg kk
theorem x_ppald (X : CallFix p m c cc nL s args Ts own) (hW : wH E F A n s g H locs) {z : Int} (k : Nat) (hz : z = (k : Int)) (hk : k < 17) (hdg : decode cc pc = .ok (.iaload, 1)) (kk : W p l e R s m args below meth c H locs cells slots Q (F0 m (pc + 1) ls (.int (iI ((ppV k : Nat) : Int)) :: rest))) : W p l e R s m args below meth c H locs cells slots Q (F0 m pc ls (.int (iI z) :: .ref E.2.2 :: rest)) := by
  subst hz
  rw [← nI_iI]
  exact va_ti X.1 X.2.1 hW.2.2.2.2.2.1.2 hW.2.2.1 (vp_in_nI hk (by decide)) (by rw [nI_clamp (by omega), ppV_eq k hk]) hdg kk
end

theorem pp_cap {u : Nat} (h : u ≤ 17) : pr ppV u ≤ 10 ^ 31 := Nat.le_trans (Nat.le_trans (pr_le (f := ppV) (M := 59) u (fun j hj => (ppV_rng j (by omega)).2)) (Nat.pow_le_pow_right (by decide) h)) (by decide)

set_option maxHeartbeats 4000000 in
set_option maxRecDepth 100000 in
/-- winLetting -/
theorem c_X6_winLetting (l : Launch) (E : wE) (A : Nat → Nat) (n sz : Nat) (g : Nat → va_E) (i WH nn r rc : Nat) (hi : i + 10 < n) (hV : PasV E A g i WH) (hn1 : 1 ≤ nn) (hn2 : nn ≤ 60) (hrn : r < nn) (hW30 : WH ≤ 10 ^ 30) (hrc : rc + 8 < n) (hRX : ResX E A g rc) (hdr : rc + 8 < i ∨ i + 10 < rc) : Met l yX6_winLetting wsX6_winLetting ({ frames := 4, cells := 0, slots := 0, locals := 200 } : Room) (va_Pc [.ref (A (i)), .int (iI ((nn : Int))), .int (iI ((r : Int))), .ref (A (rc))] (wPre E A n sz g)) (va_Qv (fun g' => ResV E A g' rc (rdT ((lsW WH nn (nn - 1 - r) : Nat) : Int) (pr ppV 17 * nn)) (rdB ((lsW WH nn (nn - 1 - r) : Nat) : Int) (pr ppV 17 * nn)) ∧ PasV E A g' i WH ∧ ∀ j, ((j < i ∨ i + 10 < j) ∧ (j < rc ∨ rc + 8 < j)) → g' j = g j) (wAt E A n) (wF A n sz)) 0 0 (wF A n sz) := by
  refine x_met (cc := cX6_winLetting) (maxL := 5) (ret := none) [.ref (A (i)), .int (iI ((nn : Int))), .int (iI ((r : Int))), .ref (A (rc))] (by decide) rfl (Nat.le_of_ble_eq_true rfl) ?_
  intro p e s m below meth c ls X hr hlk hnm hsz hW hl
  have hl : lv_has ls 5 [(0, .ref (A (i))), (1, .int (iI ((nn : Int)))), (2, .int (iI ((r : Int)))), (3, .ref (A (rc)))] := hl
  have lk_0 : ∀ w ∈ wsX60, w ∈ wsX6_winLetting := by decide +kernel
  have lk_1 : Cond.fieldLink RX6 19 (TX6 2).1 (TX6 2).2.1 (TX6 2).2.2.1 ∈ wsX6_winLetting := by decide +kernel
  have lk_2 : Cond.fieldLink RX6 22 (TX6 3).1 (TX6 3).2.1 (TX6 3).2.2.1 ∈ wsX6_winLetting := by decide +kernel
  have lk_3 : Cond.fieldLink RX6 32 RX6 "PRIME_POWERS" "[I" ∈ wsX6_winLetting := by decide +kernel
  obtain ⟨h0, n_1, n_3, n_5, n_7, n_9⟩ := hV
  have h0g := h0
  have hfr : ∀ j, (j ≠ i + 4 ∧ j ≠ i + 6 ∧ j ≠ i + 8) → g j = g j := fun _ _ => rfl
  refine lv_aload_n X.1 X.2.1 dX6_winLetting_0 rfl (lv_at hl 0 rfl) ?_
  refine x_get (C := RX6) (T := TX6) (N := 5) X hW (by omega) h0 rfl lk_0 2 (by decide) lk_1 rfl dX6_winLetting_1 ?_
  refine x_lconst X 0 (by decide) dX6_winLetting_4 ?_
  refine x_cv (x_runV (k := 1) (As := [.long (lI (0))]) (rest := []) X hW (c_X5_put l E A n _ g (i + 5) 0 (by omega) n_5 (by decide)) (by omega) n_5.1 rfl gX6_winLetting_X5_put rfl rfl rfl (by decide +kernel) ⟨by decide, by decide⟩ rfl hl.1 rfl (Nat.le_of_ble_eq_true rfl) dX6_winLetting_5 ⟨Nat.zero_le _, Nat.zero_le _⟩) hW (fun g_5 H locs hp_5 hW => ?_)
  obtain ⟨nv_5, hf_5⟩ := hp_5
  have h0 : g_5 i = .inr (6, [.ref (A (i + 1)), .ref (A (i + 3)), .ref (A (i + 5)), .ref (A (i + 7)), .ref (A (i + 9))]) := by rw [hf_5 _ (by omega)]; exact h0
  have n_1 : NatV E A g_5 (i + 1) WH := n_1.frame (hf_5 _ (by omega)) (hf_5 _ (by omega))
  have n_3 : NatX E A g_5 (i + 3) := n_3.frame (hf_5 _ (by omega)) (hf_5 _ (by omega))
  have n_7 : NatX E A g_5 (i + 7) := n_7.frame (hf_5 _ (by omega)) (hf_5 _ (by omega))
  have n_9 : NatX E A g_5 (i + 9) := n_9.frame (hf_5 _ (by omega)) (hf_5 _ (by omega))
  have n_5 : NatV E A g_5 (i + 5) 0 := nv_5
  have hfr : ∀ j, (j ≠ i + 4 ∧ j ≠ i + 6 ∧ j ≠ i + 8) → g_5 j = g j := fun j hj => (hf_5 j (by omega)).trans (hfr j hj)
  refine lv_iload_n X.1 X.2.1 dX6_winLetting_8 rfl (lv_at hl 1 rfl) ?_
  refine x_iconst X dX6_winLetting_9 ?_
  refine x_isub X dX6_winLetting_10 ?_
  refine lv_istore (lv' := [(4, .int (iI (((nn : Int)) - 1))), (0, .ref (A (i))), (1, .int (iI ((nn : Int)))), (2, .int (iI ((r : Int)))), (3, .ref (A (rc)))]) X.1 X.2.1 dX6_winLetting_11 hl (by decide) rfl (fun ls hl => ?_)
  have loop_13 : ∀ (fuel : Nat) (k : Nat) (gw : Nat → va_E) (H : Heap) (locs : List Loc) (ls : Array Slot), (k) < fuel → (k ≤ nn) → (r ≤ k) → (NatV E A gw (i + 1) WH) → (NatX E A gw (i + 3)) → (NatV E A gw (i + 5) (lsS WH nn (nn - k))) → (NatX E A gw (i + 7)) → (k < nn → NatV E A gw (i + 7) (lsW WH nn (nn - 1 - k))) → (NatX E A gw (i + 9)) → (∀ j, (j ≠ i + 4 ∧ j ≠ i + 6 ∧ j ≠ i + 8) → gw j = g j) → wH E (wF A n sz) A n s gw H locs → lv_has ls 5 [(0, .ref (A (i))), (1, .int (iI ((nn : Int)))), (2, .int (iI ((r : Int)))), (3, .ref (A (rc))), (4, .int (iI ((k : Int) - 1)))] → W p l e ({ frames := 4, cells := 0, slots := 0, locals := 200 } : Room) s m [.ref (A (i)), .int (iI ((nn : Int))), .int (iI ((r : Int))), .ref (A (rc))].toArray below meth c H locs 0 0 (MQ below (va_Qv (fun g' => ResV E A g' rc (rdT ((lsW WH nn (nn - 1 - r) : Nat) : Int) (pr ppV 17 * nn)) (rdB ((lsW WH nn (nn - 1 - r) : Nat) : Int) (pr ppV 17 * nn)) ∧ PasV E A g' i WH ∧ ∀ j, ((j < i ∨ i + 10 < j) ∧ (j < rc ∨ rc + 8 < j)) → g' j = g j) (wAt E A n) (wF A n sz)) [.ref (A (i)), .int (iI ((nn : Int))), .int (iI ((r : Int))), .ref (A (rc))].toArray s 0 0 (wF A n sz)) (F0 m 13 ls []) := by
    intro fuel
    induction fuel with
    | zero => intro k gw H locs ls hm; exact absurd hm (Nat.not_lt_zero _)
    | succ fuel ih_13 =>
      intro k gw H locs ls hm hk hkr n_1 n_3 n_5 n_7 w_7 n_9 hfr hW hl
      have h0 : gw i = .inr (6, [.ref (A (i + 1)), .ref (A (i + 3)), .ref (A (i + 5)), .ref (A (i + 7)), .ref (A (i + 9))]) := (hfr _ (by omega)).trans h0g
      have hVw : PasV E A gw i WH := ⟨h0, n_1, n_3, n_5.any, n_7, n_9⟩
      have hsl := lsS_le WH nn (nn - k)
      have hsl2 : (nn - k) * WH ≤ 60 * WH := Nat.mul_le_mul_right _ (by omega)
      refine lv_iload X.1 X.2.1 dX6_winLetting_13 (lv_at hl 4 rfl) ?_
      refine lv_iload_n X.1 X.2.1 dX6_winLetting_15 rfl (lv_at hl 2 rfl) ?_
      refine x_icmp_lt (tgt := 31) X ⟨by omega, by omega⟩ ⟨by omega, by omega⟩ dX6_winLetting_16 (by decide) (fun b_16 => ?_) (fun b_16 => ?_)
      · refine lv_aload_n X.1 X.2.1 dX6_winLetting_31 rfl (lv_at hl 3 rfl) ?_
        refine lv_aload_n X.1 X.2.1 dX6_winLetting_32 rfl (lv_at hl 0 rfl) ?_
        refine x_get (C := RX6) (T := TX6) (N := 5) X hW (by omega) h0 rfl lk_0 3 (by decide) lk_2 rfl dX6_winLetting_33 ?_
        have hRX := hRX.frame (fun j h1 h2 => hfr j (by omega))
        have hR2 := hRX
        obtain ⟨⟨zr, hr0⟩, _⟩ := hR2
        have w_7 : NatV E A gw (i + 7) (lsW WH nn (nn - 1 - r)) := by rw [← show k = r from by omega]; exact w_7 (by omega)
        refine x_cv (x_runV (k := 1) (As := [.ref (A (i + 7))]) (rest := []) X hW (c_X8_put l E A n _ gw rc (i + 7) (lsW WH nn (nn - 1 - r)) hrc (by omega) (by omega) hRX w_7) (by omega) hr0 rfl gX6_winLetting_X8_put rfl rfl rfl (by decide +kernel) ⟨by decide, by decide⟩ rfl hl.1 rfl (Nat.le_of_ble_eq_true rfl) dX6_winLetting_36 ⟨Nat.zero_le _, Nat.zero_le _⟩) hW (fun g_36 H locs hp_36 hW => ?_)
        obtain ⟨hRv, hf_36⟩ := hp_36
        have hRv : ResV E A g_36 rc (rdT ((lsW WH nn (nn - 1 - r) : Nat) : Int) (pr ppV 0)) (rdB ((lsW WH nn (nn - 1 - r) : Nat) : Int) (pr ppV 0)) := by show ResV E A _ rc (rdT _ 1) (rdB _ 1); rw [rdT_1, rdB_1]; exact hRv
        have hV4 : PasV E A g_36 i WH := hVw.frame (fun j h1 h2 => hf_36 j (by omega))
        have hfz : ∀ j, ((j < i ∨ i + 10 < j) ∧ (j < rc ∨ rc + 8 < j)) → g_36 j = g j := fun j hj => (hf_36 j hj.2).trans (hfr j (by omega))
        refine x_iconst X dX6_winLetting_39 ?_
        refine x_seti (((0 : Nat) : Int)) rfl ?_
        refine lv_istore (lv' := [(4, .int (iI (((0 : Nat) : Int)))), (0, .ref (A (i))), (1, .int (iI ((nn : Int)))), (2, .int (iI ((r : Int)))), (3, .ref (A (rc)))]) X.1 X.2.1 dX6_winLetting_40 hl (by decide) rfl (fun ls hl => ?_)
        have loop_42 : ∀ (fuel : Nat) (u : Nat) (gv : Nat → va_E) (H : Heap) (locs : List Loc) (ls : Array Slot), (17 - u) < fuel → (u ≤ 17) → (ResV E A gv rc (rdT ((lsW WH nn (nn - 1 - r) : Nat) : Int) (pr ppV u)) (rdB ((lsW WH nn (nn - 1 - r) : Nat) : Int) (pr ppV u))) → (PasV E A gv i WH) → (∀ j, ((j < i ∨ i + 10 < j) ∧ (j < rc ∨ rc + 8 < j)) → gv j = g j) → wH E (wF A n sz) A n s gv H locs → lv_has ls 5 [(0, .ref (A (i))), (1, .int (iI ((nn : Int)))), (3, .ref (A (rc))), (4, .int (iI ((u : Int))))] → W p l e ({ frames := 4, cells := 0, slots := 0, locals := 200 } : Room) s m [.ref (A (i)), .int (iI ((nn : Int))), .int (iI ((r : Int))), .ref (A (rc))].toArray below meth c H locs 0 0 (MQ below (va_Qv (fun g' => ResV E A g' rc (rdT ((lsW WH nn (nn - 1 - r) : Nat) : Int) (pr ppV 17 * nn)) (rdB ((lsW WH nn (nn - 1 - r) : Nat) : Int) (pr ppV 17 * nn)) ∧ PasV E A g' i WH ∧ ∀ j, ((j < i ∨ i + 10 < j) ∧ (j < rc ∨ rc + 8 < j)) → g' j = g j) (wAt E A n) (wF A n sz)) [.ref (A (i)), .int (iI ((nn : Int))), .int (iI ((r : Int))), .ref (A (rc))].toArray s 0 0 (wF A n sz)) (F0 m 42 ls []) := by
          intro fuel
          induction fuel with
          | zero => intro u gv H locs ls hm; exact absurd hm (Nat.not_lt_zero _)
          | succ fuel ih_42 =>
            intro u gv H locs ls hm hu hRv hV4 hfz hW hl
            have h0 := hV4.1
            have hr0 := hRv.1
            have hcu := pp_cap hu
            refine lv_iload X.1 X.2.1 dX6_winLetting_42 (lv_at hl 3 rfl) ?_
            refine x_getpp X hW lk_3 dX6_winLetting_44 ?_
            refine x_pplen X hW dX6_winLetting_47 ?_
            refine x_icmp_ge (tgt := 67) X ⟨by omega, by omega⟩ ⟨by decide, by decide⟩ dX6_winLetting_48 (by decide) (fun b_48 => ?_) (fun b_48 => ?_)
            · have hu17 : u = 17 := by omega
              rw [hu17] at hRv
              have hpk : pr ppV 17 * nn < 10 ^ 54 := Nat.lt_of_le_of_lt (Nat.mul_le_mul (pp_cap (Nat.le_refl 17)) hn2) (by decide)
              refine lv_aload_n X.1 X.2.1 dX6_winLetting_67 rfl (lv_at hl 2 rfl) ?_
              refine lv_iload_n X.1 X.2.1 dX6_winLetting_68 rfl (lv_at hl 1 rfl) ?_
              refine x_cv (x_runV (k := 1) (As := [.int (iI ((nn : Int)))]) (rest := []) X hW (c_X8_over l E A n _ gv rc ((lsW WH nn (nn - 1 - r) : Nat) : Int) (pr ppV 17) (nn) hrc (pr_pos 17 (fun j hj => (ppV_rng j hj).1)) (by omega) (by omega) hRv hpk) (by omega) hr0 rfl gX6_winLetting_X8_over rfl rfl rfl (by decide +kernel) ⟨by decide, by decide⟩ rfl hl.1 rfl (Nat.le_of_ble_eq_true rfl) dX6_winLetting_69 ⟨Nat.zero_le _, Nat.zero_le _⟩) hW (fun g_69 H locs hp_69 hW => ?_)
              obtain ⟨hRv, hf_69⟩ := hp_69
              have hV4 : PasV E A g_69 i WH := hV4.frame (fun j h1 h2 => hf_69 j (by omega))
              have hfz : ∀ j, ((j < i ∨ i + 10 < j) ∧ (j < rc ∨ rc + 8 < j)) → g_69 j = g j := fun j hj => (hf_69 j hj.2).trans (hfz j hj)
              exact x_vret X hr hlk hW (⟨hRv, hV4, hfz⟩) dX6_winLetting_72
            · have hu9 : u < 17 := by omega
              have hpu := ppV_rng u hu9
              have hpk : pr ppV u * ppV u < 10 ^ 54 := Nat.lt_of_le_of_lt (Nat.mul_le_mul hcu hpu.2) (by decide)
              refine lv_aload_n X.1 X.2.1 dX6_winLetting_51 rfl (lv_at hl 2 rfl) ?_
              refine x_getpp X hW lk_3 dX6_winLetting_52 ?_
              refine lv_iload X.1 X.2.1 dX6_winLetting_55 (lv_at hl 3 rfl) ?_
              refine x_ppald X hW u (by omega) (by omega) dX6_winLetting_57 ?_
              refine x_cv (x_runV (k := 1) (As := [.int (iI (((ppV u : Nat) : Int)))]) (rest := []) X hW (c_X8_over l E A n _ gv rc ((lsW WH nn (nn - 1 - r) : Nat) : Int) (pr ppV u) (ppV u) hrc (pr_pos u (fun j hj => (ppV_rng j (by omega)).1)) hpu.1 (by omega) hRv hpk) (by omega) hr0 rfl gX6_winLetting_X8_over rfl rfl rfl (by decide +kernel) ⟨by decide, by decide⟩ rfl hl.1 rfl (Nat.le_of_ble_eq_true rfl) dX6_winLetting_58 ⟨Nat.zero_le _, Nat.zero_le _⟩) hW (fun g_58 H locs hp_58 hW => ?_)
              obtain ⟨hRv, hf_58⟩ := hp_58
              have hV4 : PasV E A g_58 i WH := hV4.frame (fun j h1 h2 => hf_58 j (by omega))
              have hfz : ∀ j, ((j < i ∨ i + 10 < j) ∧ (j < rc ∨ rc + 8 < j)) → g_58 j = g j := fun j hj => (hf_58 j hj.2).trans (hfz j hj)
              refine lv_iinc (v := iI (((u + 1 : Nat) : Int))) (lv' := [(4, .int (iI (((u + 1 : Nat) : Int)))), (0, .ref (A (i))), (1, .int (iI ((nn : Int)))), (3, .ref (A (rc)))]) X.1 X.2.1 dX6_winLetting_61 hl (k := 3) rfl (by rw [show (Int32.ofInt (1)) = iI (1) from rfl, iI_add]; rfl) (by decide) rfl (fun ls hl => ?_)
              refine lv_goto (tgt := 42) X.1 X.2.1 dX6_winLetting_64 (by decide) ?_
              exact ih_42 (u + 1) g_58 _ _ _ (by omega) (by omega) hRv hV4 hfz hW (lv_sub hl [1, 2, 3, 0] rfl)
        exact loop_42 _ 0 g_36 _ _ _ (Nat.lt_succ_self _) (by omega) hRv hV4 hfz hW (lv_sub hl [1, 2, 4, 0] rfl)
      · obtain ⟨t, ht⟩ : ∃ t, k = t + 1 := ⟨k - 1, by omega⟩
        have et : nn - 1 - (nn - k) = t := by omega
        have es : nn - t = nn - k + 1 := by omega
        have eS : lsS WH nn (nn - t) = if t = 0 then lsS WH nn (nn - k) else lsS WH nn (nn - k) + WH / t := by rw [es]; show (if nn - 1 - (nn - k) = 0 then _ else _ + WH / (nn - 1 - (nn - k))) = _; rw [et]
        have eW : lsW WH nn (nn - k) = if t = 0 then WH else (lsS WH nn (nn - k) + WH / t) * t := by
          unfold lsW
          rw [et, ← es, eS]
          by_cases q : t = 0
          · rw [if_pos q, if_pos q]
          · rw [if_neg q, if_neg q, if_neg q]
        refine lv_aload_n X.1 X.2.1 dX6_winLetting_19 rfl (lv_at hl 0 rfl) ?_
        refine lv_iload X.1 X.2.1 dX6_winLetting_20 (lv_at hl 4 rfl) ?_
        refine x_seti ((t : Int)) (by omega) ?_
        refine x_cv (x_runV (k := 1) (As := [.int (iI ((t : Int)))]) (rest := []) X hW (c_X6_letOneLess l E A n _ gw i WH t (lsS WH nn (nn - k)) hi hVw (by omega) n_5 hW30 (by omega)) (by omega) h0 rfl gX6_winLetting_X6_letOneLess rfl rfl rfl (by decide +kernel) ⟨by decide, by decide⟩ rfl hl.1 rfl (Nat.le_of_ble_eq_true rfl) dX6_winLetting_22 ⟨Nat.zero_le _, Nat.zero_le _⟩) hW (fun g_22 H locs hp_22 hW => ?_)
        obtain ⟨n_5, n_7, n_3, hf_22⟩ := hp_22
        rw [← eS] at n_5
        rw [← eW] at n_7
        have h0 : g_22 i = .inr (6, [.ref (A (i + 1)), .ref (A (i + 3)), .ref (A (i + 5)), .ref (A (i + 7)), .ref (A (i + 9))]) := by rw [hf_22 _ (by omega)]; exact h0
        have n_1 := n_1.frame (hf_22 _ (by omega)) (hf_22 _ (by omega))
        have n_9 := n_9.frame (hf_22 _ (by omega)) (hf_22 _ (by omega))
        have hfr : ∀ j, (j ≠ i + 4 ∧ j ≠ i + 6 ∧ j ≠ i + 8) → g_22 j = g j := fun j hj => (hf_22 j (by omega)).trans (hfr j hj)
        refine lv_iinc (v := iI ((t : Int) - 1)) (lv' := [(4, .int (iI ((t : Int) - 1))), (0, .ref (A (i))), (1, .int (iI ((nn : Int)))), (2, .int (iI ((r : Int)))), (3, .ref (A (rc)))]) X.1 X.2.1 dX6_winLetting_25 hl (k := 4) rfl (by rw [show (Int32.ofInt (-1)) = iI (-1) from rfl, iI_add]; congr 1; omega) (by decide) rfl (fun ls hl => ?_)
        refine lv_goto (tgt := 13) X.1 X.2.1 dX6_winLetting_28 (by decide) ?_
        exact ih_13 t g_22 _ _ _ (by omega) (by omega) (by omega) n_1 n_3 n_5 n_7.any (fun _ => by rw [show nn - 1 - t = nn - k from by omega]; exact n_7) n_9 hfr hW (lv_sub hl [1, 2, 3, 4, 0] rfl)
  exact loop_13 _ nn g_5 _ _ _ (Nat.lt_succ_self _) (Nat.le_refl _) (by omega) n_1 n_3 (by rw [Nat.sub_self]; exact n_5) n_7 (fun q => absurd q (by omega)) n_9 hfr hW (lv_sub hl [1, 2, 3, 4, 0] rfl)
