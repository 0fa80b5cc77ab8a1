/-- the lowest bar of the best word on one comer: the worths below it lose by a yes, the others don't -/
def LB (L : List (Nat × Nat)) (ya al no b : Nat) : Prop := (∀ x, 0 < bMass L x → x < b → ya + al * x < no) ∧ (∀ x, 0 < bMass L x → b ≤ x → no ≤ ya + al * x) ∧ (b = 0 ∨ 0 < bMass L (b - 1)) ∧ b ≤ 1001
theorem mass_wo {bz : Nat} {wo we : Nat → Nat} {tot : Nat} {L : List (Nat × Nat)} (hp : BookP bz wo we tot L) {x : Nat} (h : 0 < bMass L x) : ∃ j, j < bz ∧ wo j = x := by
  apply Decidable.byContradiction
  intro hc
  have := mass_no hp (x := x) (fun k hk e => hc ⟨k, hk, e⟩)
  omega
theorem lf_none {L : List (Nat × Nat)} {low z : Int} (h : LF L low z) (hz : z = -1) {x : Nat} {b : Nat} (hb : b ≤ x) (e : low = (b : Int) := by rfl) : ¬ 0 < bMass L x := by
  rcases h with ⟨_, q⟩ | ⟨y, ey, _⟩
  · have := q x (by omega)
    omega
  · omega
theorem lb_next {bz : Nat} {wo we : Nat → Nat} {tot : Nat} {L : List (Nat × Nat)} (hp : BookP bz wo we tot L) {k bar : Nat} {z : Int} (h1 : ∀ j, j < k → wo j < bar) (h2 : ∀ j, k ≤ j → j < bz → bar ≤ wo j) (hk : k ≤ bz) (hz : LF L (bar : Int) z) (hn : z ≠ -1) : k < bz ∧ z = ((wo k : Nat) : Int) := by
  rcases hz with ⟨e, _⟩ | ⟨x, e, hx1, hx2, hx3, hx4⟩
  · exact absurd e hn
  · obtain ⟨j, hj, ej⟩ := mass_wo hp hx3
    have hkj : k ≤ j := by
      apply Decidable.byContradiction
      intro q
      have := h1 j (by omega)
      omega
    have hkb : k < bz := by omega
    refine ⟨hkb, ?_⟩
    by_cases q : j = k
    · rw [e, ← ej, q]
    · have h3 := hp.1 k j (by omega) hj
      have h4 := hx4 (wo k) (by omega) (by have := h2 k (Nat.le_refl k) hkb; omega)
      have h5 := mass_at hp hkb
      omega

set_option maxHeartbeats 4000000 in
set_option maxRecDepth 100000 in
/-- lowestBar -/
theorem c_X2_lowestBar (l : Launch) (E : wE) (A : Nat → Nat) (n sz : Nat) (g : Nat → va_E) (i bk yc nc : Nat) (L : List (Nat × Nat)) (ya no al : Nat) (hi : i + 41 < n) (h0 : g i = .inr (2, [.ref (A (i + 1)), .ref (A (i + 6)), .ref (A (i + 7)), .ref (A (i + 8)), .ref (A (i + 9)), .ref (A (i + 10)), .ref (A (i + 12)), .ref (A (i + 14)), .ref (A (i + 16)), .ref (A (i + 18))])) (hbn : bk + 2 < n) (hbv : BookV E A g bk L) (hdk : i + 41 < bk ∨ bk + 2 < i) (hy1 : i + 20 ≤ yc) (hy2 : yc + 1 ≤ i + 41) (hn1 : i + 20 ≤ nc) (hn2 : nc + 1 ≤ i + 41) (hyn : yc + 1 < nc ∨ nc + 1 < yc) (nY : NatV E A g yc ya) (nN : NatV E A g nc no) (nA : NatV E A g (i + 12) al) (nT : NatX E A g (i + 14)) (hcap : ya + al * 1000 < 10 ^ 54) : Met l yX2_lowestBar wsX2_lowestBar ({ frames := 3, cells := 0, slots := 0, locals := 120 } : Room) (va_Pc [.ref (A (i)), .ref (A (bk)), .ref (A (yc)), .ref (A (nc))] (wPre E A n sz g)) (va_Qi (fun r g' => (∃ b : Nat, r = iI (b : Int) ∧ LB L ya al no b) ∧ NatX E A g' (i + 14) ∧ ∀ j, j ≠ i + 15 → g' j = g j) (wAt E A n) (wF A n sz)) 0 0 (wF A n sz) := by
  refine x_met (cc := cX2_lowestBar) (maxL := 7) (ret := (some .int)) [.ref (A (i)), .ref (A (bk)), .ref (A (yc)), .ref (A (nc))] (by decide) rfl (Nat.le_of_ble_eq_true rfl) ?_
  intro p e s m below meth c ls X hr hlk hnm hsz hW hl
  have hl : lv_has ls 7 [(0, .ref (A (i))), (1, .ref (A (bk))), (2, .ref (A (yc))), (3, .ref (A (nc)))] := hl
  have lk_0 : ∀ w ∈ wsX20, w ∈ wsX2_lowestBar := by decide +kernel
  have lk_1 : Cond.fieldLink RX2 42 (TX2 7).1 (TX2 7).2.1 (TX2 7).2.2.1 ∈ wsX2_lowestBar := by decide +kernel
  have lk_2 : Cond.fieldLink RX2 39 (TX2 6).1 (TX2 6).2.1 (TX2 6).2.2.1 ∈ wsX2_lowestBar := by decide +kernel
  have h0g := h0
  have hbvg := hbv
  have nYg := nY
  have nNg := nN
  have nAg := nA
  have hfr : ∀ j, j ≠ i + 15 → g j = g j := fun _ _ => rfl
  obtain ⟨bz, wo, we, tot, hbc, hp⟩ := hbv
  have hbz8 := hbc.2.1
  have hbo := hbc.1
  have hbv := hbvg
  refine x_iconst X dX2_lowestBar_0 ?_
  refine x_seti (((0 : Nat) : Int)) rfl ?_
  refine lv_istore (lv' := [(4, .int (iI (((0 : Nat) : Int)))), (0, .ref (A (i))), (1, .ref (A (bk))), (2, .ref (A (yc))), (3, .ref (A (nc)))]) X.1 X.2.1 dX2_lowestBar_1 hl (by decide) rfl (fun ls hl => ?_)
  refine x_iconst X dX2_lowestBar_3 ?_
  refine x_seti (((0 : Nat) : Int)) rfl ?_
  refine lv_istore (lv' := [(5, .int (iI (((0 : Nat) : Int)))), (4, .int (iI (((0 : Nat) : Int)))), (0, .ref (A (i))), (1, .ref (A (bk))), (2, .ref (A (yc))), (3, .ref (A (nc)))]) X.1 X.2.1 dX2_lowestBar_4 hl (by decide) rfl (fun ls hl => ?_)
  have loop_6 : ∀ (fuel : Nat) (k : Nat) (bar : Nat) (gw : Nat → va_E) (H : Heap) (locs : List Loc) (ls : Array Slot), (8 - k) < fuel → (k ≤ bz) → (bar ≤ 1001) → (∀ j, j < k → wo j < bar ∧ ya + al * wo j < no) → (∀ j, k ≤ j → j < bz → bar ≤ wo j) → (bar = 0 ∨ 0 < bMass L (bar - 1)) → (NatX E A gw (i + 14)) → (∀ j, j ≠ i + 15 → gw j = g j) → wH E (wF A n sz) A n s gw H locs → lv_has ls 7 [(0, .ref (A (i))), (1, .ref (A (bk))), (2, .ref (A (yc))), (3, .ref (A (nc))), (4, .int (iI ((bar : Int)))), (5, .int (iI ((k : Int))))] → W p l e ({ frames := 3, cells := 0, slots := 0, locals := 120 } : Room) s m [.ref (A (i)), .ref (A (bk)), .ref (A (yc)), .ref (A (nc))].toArray below meth c H locs 0 0 (MQ below (va_Qi (fun r g' => (∃ b : Nat, r = iI (b : Int) ∧ LB L ya al no b) ∧ NatX E A g' (i + 14) ∧ ∀ j, j ≠ i + 15 → g' j = g j) (wAt E A n) (wF A n sz)) [.ref (A (i)), .ref (A (bk)), .ref (A (yc)), .ref (A (nc))].toArray s 0 0 (wF A n sz)) (F0 m 6 ls []) := by
    intro fuel
    induction fuel with
    | zero => intro k bar gw H locs ls hm; exact absurd hm (Nat.not_lt_zero _)
    | succ fuel ih_6 =>
      intro k bar gw H locs ls hm hk hb1 hs1 hs2 hs3 nT hfr hW hl
      have h0 : gw i = .inr (2, [.ref (A (i + 1)), .ref (A (i + 6)), .ref (A (i + 7)), .ref (A (i + 8)), .ref (A (i + 9)), .ref (A (i + 10)), .ref (A (i + 12)), .ref (A (i + 14)), .ref (A (i + 16)), .ref (A (i + 18))]) := (hfr _ (by omega)).trans h0g
      have hbv : BookV E A gw bk L := hbvg.frame (hfr _ (by omega)) (hfr _ (by omega)) (hfr _ (by omega))
      have hbo : gw bk = .inr (0, [.ref (A (bk + 1)), .ref (A (bk + 2)), .int (iI (bz : Int)), .int (iI (tot : Int))]) := (hfr _ (by omega)).trans hbc.1
      have nY : NatV E A gw yc ya := nYg.frame (hfr _ (by omega)) (hfr _ (by omega))
      have nN : NatV E A gw nc no := nNg.frame (hfr _ (by omega)) (hfr _ (by omega))
      have nA : NatV E A gw (i + 12) al := nAg.frame (hfr _ (by omega)) (hfr _ (by omega))
      have hlow : ∀ x, 0 < bMass L x → x < bar → ya + al * x < no := fun x hx hxb => by
        obtain ⟨j, hj, ej⟩ := mass_wo hp hx
        have hjk : j < k := Decidable.byContradiction (fun q => by have := hs2 j (by omega) hj; omega)
        rw [← ej]; exact (hs1 j hjk).2
      refine lv_iload X.1 X.2.1 dX2_lowestBar_6 (lv_at hl 5 rfl) ?_
      refine x_bipush X (by decide) dX2_lowestBar_8 ?_
      refine x_icmp_ge (tgt := 78) X ⟨by omega, by omega⟩ ⟨by decide, by decide⟩ dX2_lowestBar_10 (by decide) (fun b_10 => ?_) (fun b_10 => ?_)
      · refine lv_iload X.1 X.2.1 dX2_lowestBar_78 (lv_at hl 4 rfl) ?_
        exact x_iret X hr hlk hW (⟨⟨bar, rfl, hlow, fun x hx hb => by
          obtain ⟨j, hj, ej⟩ := mass_wo hp hx
          have := (hs1 j (by omega)).1
          omega, hs3, hb1⟩, nT, hfr⟩) dX2_lowestBar_80
      · refine lv_aload_n X.1 X.2.1 dX2_lowestBar_13 rfl (lv_at hl 1 rfl) ?_
        refine lv_iload X.1 X.2.1 dX2_lowestBar_14 (lv_at hl 4 rfl) ?_
        refine x_ci (x_runV (k := 1) (As := [.int (iI ((bar : Int)))]) (rest := []) X hW (c_X0_leastFrom l E A n _ gw bk L (bar : Int) hbn hbv ⟨by omega, by omega⟩) (by omega) hbo rfl gX2_lowestBar_X0_leastFrom rfl rfl rfl (by decide +kernel) ⟨by decide, by decide⟩ rfl hl.1 rfl (Nat.le_of_ble_eq_true rfl) dX2_lowestBar_16 ⟨Nat.zero_le _, Nat.zero_le _⟩) hW (fun r_16 g_16 H locs hp_16 hW => ?_)
        obtain ⟨⟨zz, hr_16, hlf⟩, he_16⟩ := hp_16
        rw [he_16] at hW
        subst hr_16
        have hlr := LF_rng hlf
        refine lv_istore (lv' := [(6, .int (iI (zz))), (0, .ref (A (i))), (1, .ref (A (bk))), (2, .ref (A (yc))), (3, .ref (A (nc))), (4, .int (iI ((bar : Int)))), (5, .int (iI ((k : Int))))]) X.1 X.2.1 dX2_lowestBar_19 hl (by decide) rfl (fun ls hl => ?_)
        refine lv_iload X.1 X.2.1 dX2_lowestBar_21 (lv_at hl 0 rfl) ?_
        refine x_iconst X dX2_lowestBar_23 ?_
        refine x_icmp_ne (tgt := 30) X ⟨by omega, by omega⟩ ⟨by decide, by decide⟩ dX2_lowestBar_24 (by decide) (fun b_24 => ?_) (fun b_24 => ?_)
        · have hkb := lb_next hp (fun j hj => (hs1 j hj).1) hs2 hk hlf b_24
          have hez := hkb.2
          have hw10 := (hp.2.1 k hkb.1).2
          have hmul : al * wo k ≤ al * 1000 := Nat.mul_le_mul_left _ hw10
          refine lv_aload_n X.1 X.2.1 dX2_lowestBar_30 rfl (lv_at hl 1 rfl) ?_
          refine x_get (C := RX2) (T := TX2) (N := 10) X hW (by omega) h0 rfl lk_0 7 (by decide) lk_1 rfl dX2_lowestBar_31 ?_
          refine lv_aload_n X.1 X.2.1 dX2_lowestBar_34 rfl (lv_at hl 3 rfl) ?_
          refine x_cv (x_runV (k := 1) (As := [.ref (A (yc))]) (rest := []) X hW (c_X5_copy l E A n _ gw (i + 14) yc ya (by omega) (by omega) (by omega) (by omega) (by omega) nT nY) (by omega) nT.1 rfl gX2_lowestBar_X5_copy rfl rfl rfl (by decide +kernel) ⟨by decide, by decide⟩ rfl hl.1 rfl (Nat.le_of_ble_eq_true rfl) dX2_lowestBar_35 ⟨Nat.zero_le _, Nat.zero_le _⟩) hW (fun g_35 H locs hp_35 hW => ?_)
          obtain ⟨nv_35, hf_35⟩ := hp_35
          have h0 : g_35 i = .inr (2, [.ref (A (i + 1)), .ref (A (i + 6)), .ref (A (i + 7)), .ref (A (i + 8)), .ref (A (i + 9)), .ref (A (i + 10)), .ref (A (i + 12)), .ref (A (i + 14)), .ref (A (i + 16)), .ref (A (i + 18))]) := by rw [hf_35 _ (by omega)]; exact h0
          have hbo : g_35 bk = .inr (0, [.ref (A (bk + 1)), .ref (A (bk + 2)), .int (iI ((bz : Int))), .int (iI ((tot : Int)))]) := by rw [hf_35 _ (by omega)]; exact hbo
          have nY : NatV E A g_35 yc ya := nY.frame (hf_35 _ (by omega)) (hf_35 _ (by omega))
          have nN : NatV E A g_35 nc no := nN.frame (hf_35 _ (by omega)) (hf_35 _ (by omega))
          have nA : NatV E A g_35 (i + 12) al := nA.frame (hf_35 _ (by omega)) (hf_35 _ (by omega))
          have nT : NatV E A g_35 (i + 14) ya := nv_35
          have hfr : ∀ j, j ≠ i + 15 → g_35 j = g j := fun j hj => (hf_35 j (by omega)).trans (hfr j hj)
          refine lv_aload_n X.1 X.2.1 dX2_lowestBar_38 rfl (lv_at hl 1 rfl) ?_
          refine x_get (C := RX2) (T := TX2) (N := 10) X hW (by omega) h0 rfl lk_0 7 (by decide) lk_1 rfl dX2_lowestBar_39 ?_
          refine lv_aload_n X.1 X.2.1 dX2_lowestBar_42 rfl (lv_at hl 1 rfl) ?_
          refine x_get (C := RX2) (T := TX2) (N := 10) X hW (by omega) h0 rfl lk_0 6 (by decide) lk_2 rfl dX2_lowestBar_43 ?_
          refine lv_iload X.1 X.2.1 dX2_lowestBar_46 (lv_at hl 0 rfl) ?_
          refine x_i2l X ⟨by omega, by omega⟩ dX2_lowestBar_48 ?_
          refine x_setl (((wo k : Nat) : Int)) hez ?_
          refine x_cv (x_runV (k := 2) (As := [.ref (A (i + 12)), .long (lI (((wo k : Nat) : Int)))]) (rest := []) X hW (c_X5_addTimes l E A n _ g_35 (i + 14) (i + 12) ya al (wo k) (by omega) (by omega) (by omega) (by omega) (by omega) nT nA (by omega) (by omega)) (by omega) nT.2.1 rfl gX2_lowestBar_X5_addTimes rfl rfl rfl (by decide +kernel) ⟨by decide, by decide⟩ rfl hl.1 rfl (Nat.le_of_ble_eq_true rfl) dX2_lowestBar_49 ⟨Nat.zero_le _, Nat.zero_le _⟩) hW (fun g_49 H locs hp_49 hW => ?_)
          obtain ⟨nv_49, hf_49⟩ := hp_49
          have h0 : g_49 i = .inr (2, [.ref (A (i + 1)), .ref (A (i + 6)), .ref (A (i + 7)), .ref (A (i + 8)), .ref (A (i + 9)), .ref (A (i + 10)), .ref (A (i + 12)), .ref (A (i + 14)), .ref (A (i + 16)), .ref (A (i + 18))]) := by rw [hf_49 _ (by omega)]; exact h0
          have hbo : g_49 bk = .inr (0, [.ref (A (bk + 1)), .ref (A (bk + 2)), .int (iI ((bz : Int))), .int (iI ((tot : Int)))]) := by rw [hf_49 _ (by omega)]; exact hbo
          have nY : NatV E A g_49 yc ya := nY.frame (hf_49 _ (by omega)) (hf_49 _ (by omega))
          have nN : NatV E A g_49 nc no := nN.frame (hf_49 _ (by omega)) (hf_49 _ (by omega))
          have nA : NatV E A g_49 (i + 12) al := nA.frame (hf_49 _ (by omega)) (hf_49 _ (by omega))
          have nT : NatV E A g_49 (i + 14) (ya + al * wo k) := nv_49
          have hfr : ∀ j, j ≠ i + 15 → g_49 j = g j := fun j hj => (hf_49 j (by omega)).trans (hfr j hj)
          refine lv_aload_n X.1 X.2.1 dX2_lowestBar_52 rfl (lv_at hl 1 rfl) ?_
          refine x_get (C := RX2) (T := TX2) (N := 10) X hW (by omega) h0 rfl lk_0 7 (by decide) lk_1 rfl dX2_lowestBar_53 ?_
          refine lv_aload_n X.1 X.2.1 dX2_lowestBar_56 rfl (lv_at hl 4 rfl) ?_
          refine x_ci (x_runV (k := 1) (As := [.ref (A (nc))]) (rest := []) X hW (c_X5_against l E A n _ g_49 (i + 14) nc (ya + al * wo k) no (by omega) (by omega) nT nN) (by omega) nT.2.1 rfl gX2_lowestBar_X5_against rfl rfl rfl (by decide +kernel) ⟨by decide, by decide⟩ rfl hl.1 rfl (Nat.le_of_ble_eq_true rfl) dX2_lowestBar_57 ⟨Nat.zero_le _, Nat.zero_le _⟩) hW (fun r_57 g_57 H locs hp_57 hW => ?_)
          obtain ⟨hr_57, he_57⟩ := hp_57
          rw [he_57] at hW
          subst hr_57
          refine x_if_lt (tgt := 66) X ⟨by repeat (first | decide | split), by repeat (first | decide | split)⟩ dX2_lowestBar_60 (by decide) (fun b_60 => ?_) (fun b_60 => ?_)
          · have hlost : ya + al * wo k < no := Decidable.byContradiction (fun q => by rw [if_neg q] at b_60; split at b_60 <;> omega)
            refine lv_iload X.1 X.2.1 dX2_lowestBar_66 (lv_at hl 0 rfl) ?_
            refine x_iconst X dX2_lowestBar_68 ?_
            refine x_iadd X dX2_lowestBar_69 ?_
            refine x_seti (((wo k + 1 : Nat) : Int)) (by omega) ?_
            refine lv_istore (lv' := [(4, .int (iI (((wo k + 1 : Nat) : Int)))), (6, .int (iI (zz))), (0, .ref (A (i))), (1, .ref (A (bk))), (2, .ref (A (yc))), (3, .ref (A (nc))), (5, .int (iI ((k : Int))))]) X.1 X.2.1 dX2_lowestBar_70 hl (by decide) rfl (fun ls hl => ?_)
            refine lv_iinc (v := iI (((k + 1 : Nat) : Int))) (lv' := [(5, .int (iI (((k + 1 : Nat) : Int)))), (4, .int (iI (((wo k + 1 : Nat) : Int)))), (6, .int (iI (zz))), (0, .ref (A (i))), (1, .ref (A (bk))), (2, .ref (A (yc))), (3, .ref (A (nc)))]) X.1 X.2.1 dX2_lowestBar_72 hl (k := 6) rfl (by rw [show (Int32.ofInt (1)) = iI (1) from rfl, iI_add]; rfl) (by decide) rfl (fun ls hl => ?_)
            refine lv_goto (tgt := 6) X.1 X.2.1 dX2_lowestBar_75 (by decide) ?_
            exact ih_6 (k + 1) (wo k + 1) g_49 _ _ _ (by omega) hkb.1 (by omega) (fun j hj => by
          by_cases e9 : j = k
          · rw [e9]; exact ⟨by omega, hlost⟩
          · have q9 := hp.1 j k (by omega) hkb.1; exact ⟨by omega, (hs1 j (by omega)).2⟩) (fun j hj1 hj2 => hp.1 k j (by omega) hj2) (Or.inr (by rw [Nat.add_sub_cancel]; exact mass_at hp hkb.1)) nT.any hfr hW (lv_sub hl [3, 4, 5, 6, 1, 0] rfl)
          · have hwin : no ≤ ya + al * wo k := Decidable.byContradiction (fun q => by rw [if_pos (by omega)] at b_60; exact b_60 (by decide))
            refine lv_iload X.1 X.2.1 dX2_lowestBar_63 (lv_at hl 5 rfl) ?_
            exact x_iret X hr hlk hW (⟨⟨bar, rfl, hlow, fun x hx hb => by
          obtain ⟨j, hj, ej⟩ := mass_wo hp hx
          have hkj : k ≤ j := Decidable.byContradiction (fun q => by have := (hs1 j (by omega)).1; omega)
          have hxx : wo k ≤ x := by rw [← ej]; exact asc_le hp.1 hkj hj
          have := Nat.mul_le_mul_left al hxx
          omega, hs3, hb1⟩, nT.any, hfr⟩) dX2_lowestBar_65
        · refine lv_iload X.1 X.2.1 dX2_lowestBar_27 (lv_at hl 5 rfl) ?_
          exact x_iret X hr hlk hW (⟨⟨bar, rfl, hlow, fun x hx hb => absurd hx (lf_none hlf b_24 hb), hs3, hb1⟩, nT, hfr⟩) dX2_lowestBar_29
  exact loop_6 _ 0 0 g _ _ _ (Nat.lt_succ_self _) (Nat.zero_le _) (Nat.zero_le _) (fun j hj => absurd hj (Nat.not_lt_zero _)) (fun _ _ _ => Nat.zero_le _) (Or.inl rfl) nT hfr hW (lv_sub hl [2, 3, 4, 5, 1, 0] rfl)

set_option maxHeartbeats 4000000 in
set_option maxRecDepth 100000 in
/-- chooseAt -/
theorem c_X2_chooseAt (l : Launch) (E : wE) (A : Nat → Nat) (n sz : Nat) (g : Nat → va_E) (i bk yc nc : Nat) (L : List (Nat × Nat)) (ya no al : Nat) (hi : i + 41 < n) (h0 : g i = .inr (2, [.ref (A (i + 1)), .ref (A (i + 6)), .ref (A (i + 7)), .ref (A (i + 8)), .ref (A (i + 9)), .ref (A (i + 10)), .ref (A (i + 12)), .ref (A (i + 14)), .ref (A (i + 16)), .ref (A (i + 18))])) (hbn : bk + 2 < n) (hbv : BookV E A g bk L) (hdk : i + 41 < bk ∨ bk + 2 < i) (hy1 : i + 20 ≤ yc) (hy2 : yc + 1 ≤ i + 41) (hn1 : i + 20 ≤ nc) (hn2 : nc + 1 ≤ i + 41) (hyn : yc + 1 < nc ∨ nc + 1 < yc) (nY : NatV E A g yc ya) (nN : NatV E A g nc no) (nA : NatV E A g (i + 12) al) (nT : NatX E A g (i + 14)) (hcap : ya + al * 1000 < 10 ^ 54) (hcap2 : no * 8000 + ya * 8000 + al * 8000000 < 10 ^ 54) : Met l yX2_chooseAt wsX2_chooseAt ({ frames := 4, cells := 0, slots := 0, locals := 160 } : Room) (va_Pc [.ref (A (i)), .ref (A (bk)), .ref (A (yc)), .ref (A (nc))] (wPre E A n sz g)) (va_Qi (fun r g' => (∃ b : Nat, r = iI (b : Int) ∧ LB L ya al no b ∧ NatV E A g' nc (no * bBelow L ((b : Nat) : Int) + ya * (bE L (fun _ => 1) - bBelow L ((b : Nat) : Int)) + al * bGath L ((b : Nat) : Int))) ∧ NatX E A g' (i + 14) ∧ ∀ j, (j ≠ i + 15 ∧ j ≠ nc + 1) → g' j = g j) (wAt E A n) (wF A n sz)) 0 0 (wF A n sz) := by
  refine x_met (cc := cX2_chooseAt) (maxL := 6) (ret := (some .int)) [.ref (A (i)), .ref (A (bk)), .ref (A (yc)), .ref (A (nc))] (by decide) rfl (Nat.le_of_ble_eq_true rfl) ?_
  intro p e s m below meth c ls X hr hlk hnm hsz hW hl
  have hl : lv_has ls 6 [(0, .ref (A (i))), (1, .ref (A (bk))), (2, .ref (A (yc))), (3, .ref (A (nc)))] := hl
  have lk_0 : ∀ w ∈ wsX20, w ∈ wsX2_chooseAt := by decide +kernel
  have lk_1 : Cond.fieldLink RX2 39 (TX2 6).1 (TX2 6).2.1 (TX2 6).2.2.1 ∈ wsX2_chooseAt := by decide +kernel
  have hbvg := hbv
  have htot := hbv.tot
  have hbel := hbv.le
  have hgat := hbv.gle
  obtain ⟨bz, wo, we, tot, hbc, hpp⟩ := hbv
  have hbo := hbc.1
  have hbv := hbvg
  have hlet : ∀ z : Int, bBelow L z ≤ bE L (fun _ => 1) := fun z => by
    rw [← hpp.2.2.1 (fun _ => 1)]
    show bE L _ ≤ _
    rw [← hpp.2.2.1 (fun x => if (x : Int) < z then 1 else 0)]
    exact sm_le bz (fun k _ => Nat.mul_le_mul_left _ (by split <;> omega))
  refine lv_aload_n X.1 X.2.1 dX2_chooseAt_0 rfl (lv_at hl 0 rfl) ?_
  refine lv_aload_n X.1 X.2.1 dX2_chooseAt_1 rfl (lv_at hl 1 rfl) ?_
  refine lv_aload_n X.1 X.2.1 dX2_chooseAt_2 rfl (lv_at hl 2 rfl) ?_
  refine lv_aload_n X.1 X.2.1 dX2_chooseAt_3 rfl (lv_at hl 3 rfl) ?_
  refine x_ci (x_runV (k := 3) (As := [.ref (A (bk)), .ref (A (yc)), .ref (A (nc))]) (rest := []) X hW (c_X2_lowestBar l E A n _ g i bk yc nc L ya no al hi h0 hbn hbv hdk hy1 hy2 hn1 hn2 hyn nY nN nA nT hcap) (by omega) h0 rfl gX2_chooseAt_X2_lowestBar rfl rfl rfl (by decide +kernel) ⟨by decide, by decide⟩ rfl hl.1 rfl (Nat.le_of_ble_eq_true rfl) dX2_chooseAt_4 ⟨Nat.zero_le _, Nat.zero_le _⟩) hW (fun r_4 g_4 H locs hp_4 hW => ?_)
  obtain ⟨⟨b, hr_4, hLB⟩, nT, hf_4⟩ := hp_4
  subst hr_4
  have hb1 : b ≤ 1001 := hLB.2.2.2
  have h0 : g_4 i = .inr (2, [.ref (A (i + 1)), .ref (A (i + 6)), .ref (A (i + 7)), .ref (A (i + 8)), .ref (A (i + 9)), .ref (A (i + 10)), .ref (A (i + 12)), .ref (A (i + 14)), .ref (A (i + 16)), .ref (A (i + 18))]) := by rw [hf_4 _ (by omega)]; exact h0
  have hbo : g_4 bk = .inr (0, [.ref (A (bk + 1)), .ref (A (bk + 2)), .int (iI ((bz : Int))), .int (iI ((tot : Int)))]) := by rw [hf_4 _ (by omega)]; exact hbo
  have nY : NatV E A g_4 yc ya := nY.frame (hf_4 _ (by omega)) (hf_4 _ (by omega))
  have nN : NatV E A g_4 nc no := nN.frame (hf_4 _ (by omega)) (hf_4 _ (by omega))
  have nA : NatV E A g_4 (i + 12) al := nA.frame (hf_4 _ (by omega)) (hf_4 _ (by omega))
  have hbv := hbvg.frame (hf_4 _ (by omega)) (hf_4 _ (by omega)) (hf_4 _ (by omega))
  have hfr : ∀ j, (j ≠ i + 15 ∧ j ≠ nc + 1) → g_4 j = g j := fun j hj => hf_4 j hj.1
  refine lv_istore (lv' := [(4, .int (iI (((b : Nat) : Int)))), (0, .ref (A (i))), (1, .ref (A (bk))), (2, .ref (A (yc))), (3, .ref (A (nc)))]) X.1 X.2.1 dX2_chooseAt_7 hl (by decide) rfl (fun ls hl => ?_)
  have hq1 := hbel ((b : Nat) : Int)
  have hq2 := hgat ((b : Nat) : Int)
  have hq3 := hlet ((b : Nat) : Int)
  have hm1 : no * bBelow L ((b : Nat) : Int) ≤ no * 8000 := Nat.mul_le_mul_left _ hq1
  have hm2 : ya * (bE L (fun _ => 1) - bBelow L ((b : Nat) : Int)) ≤ ya * 8000 := Nat.mul_le_mul_left _ (by omega)
  have hm3 : al * bGath L ((b : Nat) : Int) ≤ al * 8000000 := Nat.mul_le_mul_left _ hq2
  refine lv_aload_n X.1 X.2.1 dX2_chooseAt_9 rfl (lv_at hl 2 rfl) ?_
  refine lv_iload X.1 X.2.1 dX2_chooseAt_10 (lv_at hl 0 rfl) ?_
  refine x_ci (x_runV (k := 1) (As := [.int (iI (((b : Nat) : Int)))]) (rest := []) X hW (c_X0_below l E A n _ g_4 bk L ((b : Nat) : Int) hbn hbv ⟨by omega, by omega⟩) (by omega) hbo rfl gX2_chooseAt_X0_below rfl rfl rfl (by decide +kernel) ⟨by decide, by decide⟩ rfl hl.1 rfl (Nat.le_of_ble_eq_true rfl) dX2_chooseAt_12 ⟨Nat.zero_le _, Nat.zero_le _⟩) hW (fun r_12 g_12 H locs hp_12 hW => ?_)
  obtain ⟨hr_12, he_12⟩ := hp_12
  rw [he_12] at hW
  subst hr_12
  refine lv_istore (lv' := [(5, .int (iI (((bBelow L ((b : Nat) : Int) : Nat) : Int)))), (4, .int (iI (((b : Nat) : Int)))), (0, .ref (A (i))), (1, .ref (A (bk))), (2, .ref (A (yc))), (3, .ref (A (nc)))]) X.1 X.2.1 dX2_chooseAt_15 hl (by decide) rfl (fun ls hl => ?_)
  refine lv_aload_n X.1 X.2.1 dX2_chooseAt_17 rfl (lv_at hl 5 rfl) ?_
  refine lv_iload X.1 X.2.1 dX2_chooseAt_18 (lv_at hl 0 rfl) ?_
  refine x_i2l X ⟨by omega, by omega⟩ dX2_chooseAt_20 ?_
  refine x_cv (x_runV (k := 1) (As := [.long (lI (((bBelow L ((b : Nat) : Int) : Nat) : Int)))]) (rest := []) X hW (c_X5_times l E A n _ g_4 nc no (bBelow L ((b : Nat) : Int)) (by omega) nN (by omega) (by omega)) (by omega) nN.2.1 rfl gX2_chooseAt_X5_times rfl rfl rfl (by decide +kernel) ⟨by decide, by decide⟩ rfl hl.1 rfl (Nat.le_of_ble_eq_true rfl) dX2_chooseAt_21 ⟨Nat.zero_le _, Nat.zero_le _⟩) hW (fun g_21 H locs hp_21 hW => ?_)
  obtain ⟨nv_21, hf_21⟩ := hp_21
  have h0 : g_21 i = .inr (2, [.ref (A (i + 1)), .ref (A (i + 6)), .ref (A (i + 7)), .ref (A (i + 8)), .ref (A (i + 9)), .ref (A (i + 10)), .ref (A (i + 12)), .ref (A (i + 14)), .ref (A (i + 16)), .ref (A (i + 18))]) := by rw [hf_21 _ (by omega)]; exact h0
  have hbo : g_21 bk = .inr (0, [.ref (A (bk + 1)), .ref (A (bk + 2)), .int (iI ((bz : Int))), .int (iI ((tot : Int)))]) := by rw [hf_21 _ (by omega)]; exact hbo
  have nY : NatV E A g_21 yc ya := nY.frame (hf_21 _ (by omega)) (hf_21 _ (by omega))
  have nA : NatV E A g_21 (i + 12) al := nA.frame (hf_21 _ (by omega)) (hf_21 _ (by omega))
  have nT : NatX E A g_21 (i + 14) := nT.frame (hf_21 _ (by omega)) (hf_21 _ (by omega))
  have nN : NatV E A g_21 nc (no * bBelow L ((b : Nat) : Int)) := nv_21
  have hfr : ∀ j, (j ≠ i + 15 ∧ j ≠ nc + 1) → g_21 j = g j := fun j hj => (hf_21 j (by omega)).trans (hfr j hj)
  have hbv := hbv.frame (hf_21 _ (by omega)) (hf_21 _ (by omega)) (hf_21 _ (by omega))
  refine lv_aload_n X.1 X.2.1 dX2_chooseAt_24 rfl (lv_at hl 5 rfl) ?_
  refine lv_aload_n X.1 X.2.1 dX2_chooseAt_25 rfl (lv_at hl 4 rfl) ?_
  refine lv_aload_n X.1 X.2.1 dX2_chooseAt_26 rfl (lv_at hl 3 rfl) ?_
  refine x_ci (x_runV (k := 0) (As := []) (rest := [.ref (A (yc)), .ref (A (nc))]) X hW (c_X0_total l E A n _ g_21 bk L hbn hbv) (by omega) hbo rfl gX2_chooseAt_X0_total rfl rfl rfl (by decide +kernel) ⟨by decide, by decide⟩ rfl hl.1 rfl (Nat.le_of_ble_eq_true rfl) dX2_chooseAt_27 ⟨Nat.zero_le _, Nat.zero_le _⟩) hW (fun r_27 g_27 H locs hp_27 hW => ?_)
  obtain ⟨hr_27, he_27⟩ := hp_27
  rw [he_27] at hW
  subst hr_27
  refine lv_iload X.1 X.2.1 dX2_chooseAt_30 (lv_at hl 0 rfl) ?_
  refine x_isub X dX2_chooseAt_32 ?_
  refine x_seti (((bE L (fun _ => 1) - bBelow L ((b : Nat) : Int) : Nat) : Int)) (by omega) ?_
  refine x_i2l X ⟨by omega, by omega⟩ dX2_chooseAt_33 ?_
  refine x_cv (x_runV (k := 2) (As := [.ref (A (yc)), .long (lI (((bE L (fun _ => 1) - bBelow L ((b : Nat) : Int) : Nat) : Int)))]) (rest := []) X hW (c_X5_addTimes l E A n _ g_21 nc yc (no * bBelow L ((b : Nat) : Int)) ya (bE L (fun _ => 1) - bBelow L ((b : Nat) : Int)) (by omega) (by omega) (by omega) (by omega) (by omega) nN nY (by omega) (by omega)) (by omega) nN.2.1 rfl gX2_chooseAt_X5_addTimes rfl rfl rfl (by decide +kernel) ⟨by decide, by decide⟩ rfl hl.1 rfl (Nat.le_of_ble_eq_true rfl) dX2_chooseAt_34 ⟨Nat.zero_le _, Nat.zero_le _⟩) hW (fun g_34 H locs hp_34 hW => ?_)
  obtain ⟨nv_34, hf_34⟩ := hp_34
  have h0 : g_34 i = .inr (2, [.ref (A (i + 1)), .ref (A (i + 6)), .ref (A (i + 7)), .ref (A (i + 8)), .ref (A (i + 9)), .ref (A (i + 10)), .ref (A (i + 12)), .ref (A (i + 14)), .ref (A (i + 16)), .ref (A (i + 18))]) := by rw [hf_34 _ (by omega)]; exact h0
  have hbo : g_34 bk = .inr (0, [.ref (A (bk + 1)), .ref (A (bk + 2)), .int (iI ((bz : Int))), .int (iI ((tot : Int)))]) := by rw [hf_34 _ (by omega)]; exact hbo
  have nY : NatV E A g_34 yc ya := nY.frame (hf_34 _ (by omega)) (hf_34 _ (by omega))
  have nA : NatV E A g_34 (i + 12) al := nA.frame (hf_34 _ (by omega)) (hf_34 _ (by omega))
  have nT : NatX E A g_34 (i + 14) := nT.frame (hf_34 _ (by omega)) (hf_34 _ (by omega))
  have nN : NatV E A g_34 nc (no * bBelow L ((b : Nat) : Int) + ya * (bE L (fun _ => 1) - bBelow L ((b : Nat) : Int))) := nv_34
  have hfr : ∀ j, (j ≠ i + 15 ∧ j ≠ nc + 1) → g_34 j = g j := fun j hj => (hf_34 j (by omega)).trans (hfr j hj)
  have hbv := hbv.frame (hf_34 _ (by omega)) (hf_34 _ (by omega)) (hf_34 _ (by omega))
  refine lv_aload_n X.1 X.2.1 dX2_chooseAt_37 rfl (lv_at hl 5 rfl) ?_
  refine lv_aload_n X.1 X.2.1 dX2_chooseAt_38 rfl (lv_at hl 2 rfl) ?_
  refine x_get (C := RX2) (T := TX2) (N := 10) X hW (by omega) h0 rfl lk_0 6 (by decide) lk_1 rfl dX2_chooseAt_39 ?_
  refine lv_aload_n X.1 X.2.1 dX2_chooseAt_42 rfl (lv_at hl 3 rfl) ?_
  refine lv_iload X.1 X.2.1 dX2_chooseAt_43 (lv_at hl 1 rfl) ?_
  refine x_ci (x_runV (k := 1) (As := [.int (iI (((b : Nat) : Int)))]) (rest := [.ref (A (i + 12)), .ref (A (nc))]) X hW (c_X0_gathered l E A n _ g_34 bk L ((b : Nat) : Int) hbn hbv ⟨by omega, by omega⟩) (by omega) hbo rfl gX2_chooseAt_X0_gathered rfl rfl rfl (by decide +kernel) ⟨by decide, by decide⟩ rfl hl.1 rfl (Nat.le_of_ble_eq_true rfl) dX2_chooseAt_45 ⟨Nat.zero_le _, Nat.zero_le _⟩) hW (fun r_45 g_45 H locs hp_45 hW => ?_)
  obtain ⟨hr_45, he_45⟩ := hp_45
  rw [he_45] at hW
  subst hr_45
  refine x_i2l X ⟨by omega, by omega⟩ dX2_chooseAt_48 ?_
  refine x_cv (x_runV (k := 2) (As := [.ref (A (i + 12)), .long (lI (((bGath L ((b : Nat) : Int) : Nat) : Int)))]) (rest := []) X hW (c_X5_addTimes l E A n _ g_34 nc (i + 12) (no * bBelow L ((b : Nat) : Int) + ya * (bE L (fun _ => 1) - bBelow L ((b : Nat) : Int))) al (bGath L ((b : Nat) : Int)) (by omega) (by omega) (by omega) (by omega) (by omega) nN nA (by omega) (by omega)) (by omega) nN.2.1 rfl gX2_chooseAt_X5_addTimes rfl rfl rfl (by decide +kernel) ⟨by decide, by decide⟩ rfl hl.1 rfl (Nat.le_of_ble_eq_true rfl) dX2_chooseAt_49 ⟨Nat.zero_le _, Nat.zero_le _⟩) hW (fun g_49 H locs hp_49 hW => ?_)
  obtain ⟨nv_49, hf_49⟩ := hp_49
  have h0 : g_49 i = .inr (2, [.ref (A (i + 1)), .ref (A (i + 6)), .ref (A (i + 7)), .ref (A (i + 8)), .ref (A (i + 9)), .ref (A (i + 10)), .ref (A (i + 12)), .ref (A (i + 14)), .ref (A (i + 16)), .ref (A (i + 18))]) := by rw [hf_49 _ (by omega)]; exact h0
  have hbo : g_49 bk = .inr (0, [.ref (A (bk + 1)), .ref (A (bk + 2)), .int (iI ((bz : Int))), .int (iI ((tot : Int)))]) := by rw [hf_49 _ (by omega)]; exact hbo
  have nY : NatV E A g_49 yc ya := nY.frame (hf_49 _ (by omega)) (hf_49 _ (by omega))
  have nA : NatV E A g_49 (i + 12) al := nA.frame (hf_49 _ (by omega)) (hf_49 _ (by omega))
  have nT : NatX E A g_49 (i + 14) := nT.frame (hf_49 _ (by omega)) (hf_49 _ (by omega))
  have nN : NatV E A g_49 nc (no * bBelow L ((b : Nat) : Int) + ya * (bE L (fun _ => 1) - bBelow L ((b : Nat) : Int)) + al * bGath L ((b : Nat) : Int)) := nv_49
  have hfr : ∀ j, (j ≠ i + 15 ∧ j ≠ nc + 1) → g_49 j = g j := fun j hj => (hf_49 j (by omega)).trans (hfr j hj)
  refine lv_iload X.1 X.2.1 dX2_chooseAt_52 (lv_at hl 1 rfl) ?_
  exact x_iret X hr hlk hW (⟨⟨b, rfl, hLB, nN⟩, nT, hfr⟩) dX2_chooseAt_54
