set_option maxHeartbeats 4000000 in
set_option maxRecDepth 100000 in
theorem op_letting {p : Program} {l : Launch} {e : Env} {s : State} {m : MethodId} {args : Array Value} {below : List Frame} {meth : Method} {c : Code} {H : Heap} {locs : List Loc} {cells slots : Nat} {QQ : State → Prop} {E : wE} {A : Nat → Nat} {g : Nat → va_E} {ls : Array Slot} {b LL i : Nat} {xs : Nat → Int32} (X : CallFix p m c cL_law 4 s args wsL_law RL) (hcs : cells ≤ room_1.cells ∧ slots ≤ room_1.slots) (hS : SX (fun q => s.heap.size ≤ q) s b LL xs) (hW : wH E (fun q => s.heap.size ≤ q) A 227 s g H locs) (hI : LI E A g) (hi : i + 5 ≤ LL) (hl : lv_has ls 4 [(3, .int (iI (i : Int))), (2, .ref (A 210)), (1, .ref (A 0)), (0, .ref b)])
    (kont : ∀ (g' : Nat → va_E) (H' : Heap) (locs' : List Loc), wH E (fun q => s.heap.size ≤ q) A 227 s g' H' locs' → LI E A g' → W p l e room_1 s m args below meth c H' locs' cells slots QQ (F0 m 909 ls [])) : W p l e room_1 s m args below meth c H locs cells slots QQ (F0 m 487 ls []) := by
  have hb4 := hS.2.2.2
  obtain ⟨z1, hz1, hI1⟩ := i32_of (xs (i + 1))
  obtain ⟨z2, hz2, hI2⟩ := i32_of (xs (i + 2))
  obtain ⟨rw, rl, nm, bk, L, cz, co, br, py, hz, ta, tb, xz, bx, px, P, Q, od, tz, bz, hC, hM, hP⟩ := hI
  obtain ⟨c0, cR, cB, cT, cC, cP, cK, cH, cX⟩ := id hC
  refine lv_aload_n X.1 X.2.1 dL_law_487 rfl (lv_at hl 2 rfl) ?_
  refine lv_aload_n X.1 X.2.1 dL_law_488 rfl (lv_at hl 3 rfl) ?_
  refine lv_iload_n X.1 X.2.1 dL_law_489 rfl (lv_at hl 0 rfl) ?_
  refine x_iconst X dL_law_490 ?_
  refine x_iadd X dL_law_491 ?_
  refine x_sld X hW hS (i + 1) (by omega) (by omega) hz1 dL_law_492 ?_
  refine lv_aload_n X.1 X.2.1 dL_law_493 rfl (lv_at hl 3 rfl) ?_
  refine lv_iload_n X.1 X.2.1 dL_law_494 rfl (lv_at hl 0 rfl) ?_
  refine x_iconst X dL_law_495 ?_
  refine x_iadd X dL_law_496 ?_
  refine x_sld X hW hS (i + 2) (by omega) (by omega) hz2 dL_law_497 ?_
  refine x_ci (x_runV (As := [.int (iI z1), .int (iI z2)]) (k := 2) (rest := []) X hW (c_X10_letting l E A 227 H.size g 0 bk (pr ppV 17) z1 z2 (by omega) c0 cP (by decide +kernel : pr ppV 17 ≤ 10 ^ 30) cT.any hI1 hI2) (by omega) c0 rfl gL_law_X10_letting rfl rfl rfl (by decide +kernel) ⟨(Nat.le_of_ble_eq_true rfl), (Nat.le_of_ble_eq_true rfl)⟩ rfl hl.1 rfl (Nat.le_of_ble_eq_true rfl) dL_law_498 hcs) hW (fun r1 g1 H locs hp1 hW => ?_)
  obtain ⟨e1, s1, n1, hf1⟩ := hp1
  have hM1 := LM_fr (g' := g1) hM (fun j h => hf1 j (by omega))
  obtain ⟨q, m0, mq, mN, mR, mB, mC, mP, mH, mX, f16, m16⟩ := hM1
  obtain ⟨N, hN, hN0, hN1⟩ := id mN
  refine lv_aload_n X.1 X.2.1 dL_law_501 rfl (lv_at hl 1 rfl) ?_
  refine lv_aload_n X.1 X.2.1 dL_law_502 rfl (lv_at hl 3 rfl) ?_
  refine lv_iload_n X.1 X.2.1 dL_law_503 rfl (lv_at hl 0 rfl) ?_
  refine x_iconst X dL_law_504 ?_
  refine x_iadd X dL_law_505 ?_
  refine x_sld X hW hS (i + 1) (by omega) (by omega) hz1 dL_law_506 ?_
  refine lv_aload_n X.1 X.2.1 dL_law_507 rfl (lv_at hl 3 rfl) ?_
  refine lv_iload_n X.1 X.2.1 dL_law_508 rfl (lv_at hl 0 rfl) ?_
  refine x_iconst X dL_law_509 ?_
  refine x_iadd X dL_law_510 ?_
  refine x_sld X hW hS (i + 2) (by omega) (by omega) hz2 dL_law_511 ?_
  refine x_ci (x_runV (As := [.int (iI z1), .int (iI z2)]) (k := 2) (rest := [.int r1]) X hW (c_X11_letting l E A 227 H.size g1 210 q N z1 z2 (by omega) m0 hN hI1 hI2) (by omega) m0 rfl gL_law_X11_letting rfl rfl rfl (by decide +kernel) ⟨(Nat.le_of_ble_eq_true rfl), (Nat.le_of_ble_eq_true rfl)⟩ rfl hl.1 rfl (Nat.le_of_ble_eq_true rfl) dL_law_512 hcs) hW (fun r2 g2 H2 locs2 hp2 hW2 => ?_)
  obtain ⟨e2, s2, n2, hf2⟩ := hp2
  obtain rfl : r1 = r2 := e1.trans e2.symm
  refine lv_icmp_eq (tgt := 909) X.1 X.2.1 dL_law_515 (by decide) (fun c_ => ?_) (fun c_ => absurd rfl c_)
  by_cases hc : (1 ≤ z1 ∧ z1 ≤ 60) ∧ 0 ≤ z2 ∧ z2 < z1
  · skip
    have hls := let_same (nn := z1.toNat) (r := z2.toNat) (by omega) (by omega) (by omega)
    have h44 := lt44 (nn := z1.toNat) (r := z2.toNat) (by omega) (by omega)
    have hbd : (rdT ((ltV (mlc (z1.toNat - 2)) z1.toNat z2.toNat : Nat) : Int) (mlc (z1.toNat - 2) * z1.toNat)).natAbs ≤ 10 ^ 44 ∧ rdB ((ltV (mlc (z1.toNat - 2)) z1.toNat z2.toNat : Nat) : Int) (mlc (z1.toNat - 2) * z1.toNat) ≤ 10 ^ 44 := rd44 (by rw [Int.natAbs_natCast]; exact h44.1) h44.2
    rw [hls.1, hls.2] at hbd
    have s3 := s2 hc
    rw [hls.1, hls.2] at s3
    have hC1 : LC E A g1 0 rw rl nm bk L cz co br py hz ta tb xz bx px P Q od (rdT ((lsW (pr ppV 17) z1.toNat (z1.toNat - 1 - z2.toNat) : Nat) : Int) (pr ppV 17 * z1.toNat)) (rdB ((lsW (pr ppV 17) z1.toNat (z1.toNat - 1 - z2.toNat) : Nat) : Int) (pr ppV 17 * z1.toNat)) := ⟨(hf1 0 (by omega)).trans c0, cR.frame (hf1 _ (by omega)) (fun j h1 h2 => hf1 j (by omega)), cB.frame (hf1 _ (by omega)) (fun j h1 h2 => hf1 j (by omega)), (s1 hc).1, cC.frame (fun j h1 h2 => hf1 j (by omega)), (s1 hc).2, cK.frame (fun j h1 h2 => hf1 j (by omega)), cH.frame (fun j h1 h2 => hf1 j (by omega)), cX.frame (fun j h1 h2 => hf1 j (by omega))⟩
    have hC2 := LC_fr (g' := g2) hC1 (fun j h => hf2 j (by omega))
    have hM2 : LM E A g2 210 rw rl nm bk L cz co br py hz ta tb xz bx px P Q od (rdT ((lsW (pr ppV 17) z1.toNat (z1.toNat - 1 - z2.toNat) : Nat) : Int) (pr ppV 17 * z1.toNat)) (rdB ((lsW (pr ppV 17) z1.toNat (z1.toNat - 1 - z2.toNat) : Nat) : Int) (pr ppV 17 * z1.toNat)) := ⟨q, (hf2 210 (by omega)).trans m0, mq, s3, mR.frame (hf2 _ (by omega)) (hf2 _ (by omega)) (hf2 _ (by omega)), mB.frame (fun j h1 h2 => hf2 j (by omega)), mC.frame (hf2 _ (by omega)) (hf2 _ (by omega)), mP.frame (hf2 _ (by omega)), mH.frame (hf2 _ (by omega)) (hf2 _ (by omega)), mX.frame (hf2 _ (by omega)) (hf2 _ (by omega)), ⟨f16, (hf2 _ (by omega)).trans m16⟩⟩
    exact kont g2 H2 locs2 hW2 ⟨_, _, _, _, _, _, _, _, _, _, _, _, _, _, _, _, _, _, _, _, hC2, hM2, ⟨hbd, hP.2⟩⟩
  · obtain rfl := n1 hc
    obtain rfl := n2 hc
    exact kont _ H2 locs2 hW2 ⟨_, _, _, _, _, _, _, _, _, _, _, _, _, _, _, _, _, _, _, _, hC, hM, hP⟩
set_option maxHeartbeats 4000000 in
set_option maxRecDepth 100000 in
theorem op_pass {p : Program} {l : Launch} {e : Env} {s : State} {m : MethodId} {args : Array Value} {below : List Frame} {meth : Method} {c : Code} {H : Heap} {locs : List Loc} {cells slots : Nat} {QQ : State → Prop} {E : wE} {A : Nat → Nat} {g : Nat → va_E} {ls : Array Slot} {b LL i : Nat} {xs : Nat → Int32} (X : CallFix p m c cL_law 4 s args wsL_law RL) (hcs : cells ≤ room_1.cells ∧ slots ≤ room_1.slots) (hS : SX (fun q => s.heap.size ≤ q) s b LL xs) (hW : wH E (fun q => s.heap.size ≤ q) A 227 s g H locs) (hI : LI E A g) (hi : i + 5 ≤ LL) (hl : lv_has ls 4 [(3, .int (iI (i : Int))), (2, .ref (A 210)), (1, .ref (A 0)), (0, .ref b)])
    (kont : ∀ (g' : Nat → va_E) (H' : Heap) (locs' : List Loc), wH E (fun q => s.heap.size ≤ q) A 227 s g' H' locs' → LI E A g' → W p l e room_1 s m args below meth c H' locs' cells slots QQ (F0 m 909 ls [])) : W p l e room_1 s m args below meth c H locs cells slots QQ (F0 m 520 ls []) := by
  have hb4 := hS.2.2.2
  obtain ⟨z1, hz1, hI1⟩ := i32_of (xs (i + 1))
  obtain ⟨rw, rl, nm, bk, L, cz, co, br, py, hz, ta, tb, xz, bx, px, P, Q, od, tz, bz, hC, hM, hP⟩ := hI
  obtain ⟨c0, cR, cB, cT, cC, cP, cK, cH, cX⟩ := id hC
  refine lv_aload_n X.1 X.2.1 dL_law_520 rfl (lv_at hl 2 rfl) ?_
  refine lv_aload_n X.1 X.2.1 dL_law_521 rfl (lv_at hl 3 rfl) ?_
  refine lv_iload_n X.1 X.2.1 dL_law_522 rfl (lv_at hl 0 rfl) ?_
  refine x_iconst X dL_law_523 ?_
  refine x_iadd X dL_law_524 ?_
  refine x_sld X hW hS (i + 1) (by omega) (by omega) hz1 dL_law_525 ?_
  refine x_ci (x_runV (As := [.int (iI z1)]) (k := 1) (rest := []) X hW (c_X10_pass l E A 227 H.size g 0 bk (pr ppV 17) z1 (by omega) c0 cP (by decide +kernel : pr ppV 17 ≤ 10 ^ 30) hI1) (by omega) c0 rfl gL_law_X10_pass rfl rfl rfl (by decide +kernel) ⟨(Nat.le_of_ble_eq_true rfl), (Nat.le_of_ble_eq_true rfl)⟩ rfl hl.1 rfl (Nat.le_of_ble_eq_true rfl) dL_law_526 hcs) hW (fun r1 g1 H locs hp1 hW => ?_)
  obtain ⟨e1, s1, hf1⟩ := hp1
  have hM1 := LM_fr (g' := g1) hM (fun j h => hf1 j (by omega))
  obtain ⟨q, m0, mq, mN, mR, mB, mC, mP, mH, mX, f16, m16⟩ := hM1
  obtain ⟨N, hN, hN0, hN1⟩ := id mN
  refine lv_aload_n X.1 X.2.1 dL_law_529 rfl (lv_at hl 1 rfl) ?_
  refine lv_aload_n X.1 X.2.1 dL_law_530 rfl (lv_at hl 3 rfl) ?_
  refine lv_iload_n X.1 X.2.1 dL_law_531 rfl (lv_at hl 0 rfl) ?_
  refine x_iconst X dL_law_532 ?_
  refine x_iadd X dL_law_533 ?_
  refine x_sld X hW hS (i + 1) (by omega) (by omega) hz1 dL_law_534 ?_
  refine x_ci (x_runV (As := [.int (iI z1)]) (k := 1) (rest := [.int r1]) X hW (c_X11_pass l E A 227 H.size g1 210 q N z1 (by omega) m0 hN hI1) (by omega) m0 rfl gL_law_X11_pass rfl rfl rfl (by decide +kernel) ⟨(Nat.le_of_ble_eq_true rfl), (Nat.le_of_ble_eq_true rfl)⟩ rfl hl.1 rfl (Nat.le_of_ble_eq_true rfl) dL_law_535 hcs) hW (fun r2 g2 H2 locs2 hp2 hW2 => ?_)
  obtain ⟨e2, ⟨N', hN', hNx⟩, hf2⟩ := hp2
  obtain rfl : r1 = r2 := by
    rw [e1, e2]
    by_cases hc : 1 ≤ z1 ∧ z1 ≤ 60
    · rw [if_pos hc, if_pos hc, pass_same (by omega) (by omega)]
    · rw [if_neg hc, if_neg hc]
  refine lv_icmp_eq (tgt := 909) X.1 X.2.1 dL_law_538 (by decide) (fun c_ => ?_) (fun c_ => absurd rfl c_)
  have hC1 : LC E A g1 0 rw rl nm bk L cz co br py hz ta tb xz bx px P Q od tz bz := ⟨(hf1 0 (by omega)).trans c0, cR.frame (hf1 _ (by omega)) (fun j h1 h2 => hf1 j (by omega)), cB.frame (hf1 _ (by omega)) (fun j h1 h2 => hf1 j (by omega)), cT.frame (fun j h1 h2 => hf1 j (by omega)), cC.frame (fun j h1 h2 => hf1 j (by omega)), s1, cK.frame (fun j h1 h2 => hf1 j (by omega)), cH.frame (fun j h1 h2 => hf1 j (by omega)), cX.frame (fun j h1 h2 => hf1 j (by omega))⟩
  have hC2 := LC_fr (g' := g2) hC1 (fun j h => hf2 j (by omega))
  have hM2 : LM E A g2 210 rw rl nm bk L cz co br py hz ta tb xz bx px P Q od tz bz := ⟨q, (hf2 210 (by omega)).trans m0, mq, ⟨N', hN', (hNx 0 (by decide)).trans hN0, (hNx 1 (by decide)).trans hN1⟩, mR.frame (hf2 _ (by omega)) (hf2 _ (by omega)) (hf2 _ (by omega)), mB.frame (fun j h1 h2 => hf2 j (by omega)), mC.frame (hf2 _ (by omega)) (hf2 _ (by omega)), mP.frame (hf2 _ (by omega)), mH.frame (hf2 _ (by omega)) (hf2 _ (by omega)), mX.frame (hf2 _ (by omega)) (hf2 _ (by omega)), ⟨f16, (hf2 _ (by omega)).trans m16⟩⟩
  exact kont g2 H2 locs2 hW2 ⟨_, _, _, _, _, _, _, _, _, _, _, _, _, _, _, _, _, _, _, _, hC2, hM2, hP⟩
set_option maxHeartbeats 4000000 in
set_option maxRecDepth 100000 in
theorem op_ranks {p : Program} {l : Launch} {e : Env} {s : State} {m : MethodId} {args : Array Value} {below : List Frame} {meth : Method} {c : Code} {H : Heap} {locs : List Loc} {cells slots : Nat} {QQ : State → Prop} {E : wE} {A : Nat → Nat} {g : Nat → va_E} {ls : Array Slot} {b LL i : Nat} {xs : Nat → Int32} (X : CallFix p m c cL_law 4 s args wsL_law RL) (hcs : cells ≤ room_1.cells ∧ slots ≤ room_1.slots) (hS : SX (fun q => s.heap.size ≤ q) s b LL xs) (hW : wH E (fun q => s.heap.size ≤ q) A 227 s g H locs) (hI : LI E A g) (hi : i + 5 ≤ LL) (hl : lv_has ls 4 [(3, .int (iI (i : Int))), (2, .ref (A 210)), (1, .ref (A 0)), (0, .ref b)])
    (kont : ∀ (g' : Nat → va_E) (H' : Heap) (locs' : List Loc), wH E (fun q => s.heap.size ≤ q) A 227 s g' H' locs' → LI E A g' → W p l e room_1 s m args below meth c H' locs' cells slots QQ (F0 m 909 ls [])) : W p l e room_1 s m args below meth c H locs cells slots QQ (F0 m 576 ls []) := by
  have hb4 := hS.2.2.2
  obtain ⟨z1, hz1, hI1⟩ := i32_of (xs (i + 1))
  obtain ⟨rw, rl, nm, bk, L, cz, co, br, py, hz, ta, tb, xz, bx, px, P, Q, od, tz, bz, hC, hM, hP⟩ := hI
  obtain ⟨c0, cR, cB, cT, cC, cP, cK, cH, cX⟩ := id hC
  obtain ⟨⟨fb16, fbk⟩, ⟨fc10, fck⟩, ⟨fx6, fxk⟩, ⟨fh20, fhk⟩, fpy⟩ := LM_facts hM
  refine lv_aload_n X.1 X.2.1 dL_law_576 rfl (lv_at hl 2 rfl) ?_
  refine lv_aload_n X.1 X.2.1 dL_law_577 rfl (lv_at hl 3 rfl) ?_
  refine lv_iload_n X.1 X.2.1 dL_law_578 rfl (lv_at hl 0 rfl) ?_
  refine x_iconst X dL_law_579 ?_
  refine x_iadd X dL_law_580 ?_
  refine x_sld X hW hS (i + 1) (by omega) (by omega) hz1 dL_law_581 ?_
  refine x_ci (x_runV (As := [.int (iI z1)]) (k := 1) (rest := []) X hW (c_X10_ranks l E A 227 H.size g 0 bk py z1 (by omega) c0 cK cT.any hI1) (by omega) c0 rfl gL_law_X10_ranks rfl rfl rfl (by decide +kernel) ⟨(Nat.le_of_ble_eq_true rfl), (Nat.le_of_ble_eq_true rfl)⟩ rfl hl.1 rfl (Nat.le_of_ble_eq_true rfl) dL_law_582 hcs) hW (fun r1 g1 H locs hp1 hW => ?_)
  obtain ⟨e1, s1, n1, hf1⟩ := hp1
  have hM1 := LM_fr (g' := g1) hM (fun j h => hf1 j (by omega))
  obtain ⟨q, m0, mq, mN, mR, mB, mC, mP, mH, mX, f16, m16⟩ := hM1
  obtain ⟨N, hN, hN0, hN1⟩ := id mN
  refine lv_aload_n X.1 X.2.1 dL_law_585 rfl (lv_at hl 1 rfl) ?_
  refine lv_aload_n X.1 X.2.1 dL_law_586 rfl (lv_at hl 3 rfl) ?_
  refine lv_iload_n X.1 X.2.1 dL_law_587 rfl (lv_at hl 0 rfl) ?_
  refine x_iconst X dL_law_588 ?_
  refine x_iadd X dL_law_589 ?_
  refine x_sld X hW hS (i + 1) (by omega) (by omega) hz1 dL_law_590 ?_
  refine x_ci (x_runV (As := [.int (iI z1)]) (k := 1) (rest := [.int r1]) X hW (c_X11_ranks l E A 227 H.size g1 210 q N py z1 (by omega) m0 hN mP hI1) (by omega) m0 rfl gL_law_X11_ranks rfl rfl rfl (by decide +kernel) ⟨(Nat.le_of_ble_eq_true rfl), (Nat.le_of_ble_eq_true rfl)⟩ rfl hl.1 rfl (Nat.le_of_ble_eq_true rfl) dL_law_591 hcs) hW (fun r2 g2 H2 locs2 hp2 hW2 => ?_)
  obtain ⟨e2, s2, n2, hf2⟩ := hp2
  obtain rfl : r1 = r2 := e1.trans e2.symm
  refine lv_icmp_eq (tgt := 909) X.1 X.2.1 dL_law_594 (by decide) (fun c_ => ?_) (fun c_ => absurd rfl c_)
  by_cases hc : 1 ≤ z1 ∧ z1 ≤ 20
  · skip
    have hls := rk_same (py := py) (nn := z1.toNat) (by omega)
    have h44 := rk44 (py := py) (nn := z1.toNat) (by omega) fpy
    have s3 := s2 hc
    rw [hls.1, hls.2] at s3
    have hC1 : LC E A g1 0 rw rl nm bk L cz co br py hz ta tb xz bx px P Q od (rdT ((rkN py z1.toNat z1.toNat : Nat) : Int) (pr (fun k => k + 2) (z1.toNat - 1))) (rdB ((rkN py z1.toNat z1.toNat : Nat) : Int) (pr (fun k => k + 2) (z1.toNat - 1))) := ⟨(hf1 0 (by omega)).trans c0, cR.frame (hf1 _ (by omega)) (fun j h1 h2 => hf1 j (by omega)), cB.frame (hf1 _ (by omega)) (fun j h1 h2 => hf1 j (by omega)), (s1 hc).1, cC.frame (fun j h1 h2 => hf1 j (by omega)), cP.frame (fun j h1 h2 => hf1 j (by omega)), (s1 hc).2, cH.frame (fun j h1 h2 => hf1 j (by omega)), cX.frame (fun j h1 h2 => hf1 j (by omega))⟩
    have hC2 := LC_fr (g' := g2) hC1 (fun j h => hf2 j (by omega))
    have hM2 : LM E A g2 210 rw rl nm bk L cz co br py hz ta tb xz bx px P Q od (rdT ((rkN py z1.toNat z1.toNat : Nat) : Int) (pr (fun k => k + 2) (z1.toNat - 1))) (rdB ((rkN py z1.toNat z1.toNat : Nat) : Int) (pr (fun k => k + 2) (z1.toNat - 1))) := ⟨q, (hf2 210 (by omega)).trans m0, mq, s3, mR.frame (hf2 _ (by omega)) (hf2 _ (by omega)) (hf2 _ (by omega)), mB.frame (fun j h1 h2 => hf2 j (by omega)), mC.frame (hf2 _ (by omega)) (hf2 _ (by omega)), mP.frame (hf2 _ (by omega)), mH.frame (hf2 _ (by omega)) (hf2 _ (by omega)), mX.frame (hf2 _ (by omega)) (hf2 _ (by omega)), ⟨f16, (hf2 _ (by omega)).trans m16⟩⟩
    exact kont g2 H2 locs2 hW2 ⟨_, _, _, _, _, _, _, _, _, _, _, _, _, _, _, _, _, _, _, _, hC2, hM2, ⟨rd44 (by rw [Int.natAbs_natCast]; exact h44.1) h44.2, hP.2⟩⟩
  · obtain rfl := n1 hc
    obtain rfl := n2 hc
    exact kont _ H2 locs2 hW2 ⟨_, _, _, _, _, _, _, _, _, _, _, _, _, _, _, _, _, _, _, _, hC, hM, hP⟩
set_option maxHeartbeats 4000000 in
set_option maxRecDepth 100000 in
theorem op_yes {p : Program} {l : Launch} {e : Env} {s : State} {m : MethodId} {args : Array Value} {below : List Frame} {meth : Method} {c : Code} {H : Heap} {locs : List Loc} {cells slots : Nat} {QQ : State → Prop} {E : wE} {A : Nat → Nat} {g : Nat → va_E} {ls : Array Slot} {b LL i : Nat} {xs : Nat → Int32} (X : CallFix p m c cL_law 4 s args wsL_law RL) (hcs : cells ≤ room_1.cells ∧ slots ≤ room_1.slots) (hS : SX (fun q => s.heap.size ≤ q) s b LL xs) (hW : wH E (fun q => s.heap.size ≤ q) A 227 s g H locs) (hI : LI E A g) (hi : i + 5 ≤ LL) (hl : lv_has ls 4 [(3, .int (iI (i : Int))), (2, .ref (A 210)), (1, .ref (A 0)), (0, .ref b)])
    (kont : ∀ (g' : Nat → va_E) (H' : Heap) (locs' : List Loc), wH E (fun q => s.heap.size ≤ q) A 227 s g' H' locs' → LI E A g' → W p l e room_1 s m args below meth c H' locs' cells slots QQ (F0 m 909 ls [])) : W p l e room_1 s m args below meth c H locs cells slots QQ (F0 m 599 ls []) := by
  have hb4 := hS.2.2.2
  obtain ⟨z1, hz1, hI1⟩ := i32_of (xs (i + 1))
  obtain ⟨z2, hz2, hI2⟩ := i32_of (xs (i + 2))
  obtain ⟨z3, hz3, hI3⟩ := i32_of (xs (i + 3))
  obtain ⟨rw, rl, nm, bk, L, cz, co, br, py, hz, ta, tb, xz, bx, px, P, Q, od, tz, bz, hC, hM, hP⟩ := hI
  obtain ⟨c0, cR, cB, cT, cC, cP, cK, cH, cX⟩ := id hC
  refine lv_aload_n X.1 X.2.1 dL_law_599 rfl (lv_at hl 2 rfl) ?_
  refine lv_aload_n X.1 X.2.1 dL_law_600 rfl (lv_at hl 3 rfl) ?_
  refine lv_iload_n X.1 X.2.1 dL_law_601 rfl (lv_at hl 0 rfl) ?_
  refine x_iconst X dL_law_602 ?_
  refine x_iadd X dL_law_603 ?_
  refine x_sld X hW hS (i + 1) (by omega) (by omega) hz1 dL_law_604 ?_
  refine lv_aload_n X.1 X.2.1 dL_law_605 rfl (lv_at hl 3 rfl) ?_
  refine lv_iload_n X.1 X.2.1 dL_law_606 rfl (lv_at hl 0 rfl) ?_
  refine x_iconst X dL_law_607 ?_
  refine x_iadd X dL_law_608 ?_
  refine x_sld X hW hS (i + 2) (by omega) (by omega) hz2 dL_law_609 ?_
  refine lv_aload_n X.1 X.2.1 dL_law_610 rfl (lv_at hl 3 rfl) ?_
  refine lv_iload_n X.1 X.2.1 dL_law_611 rfl (lv_at hl 0 rfl) ?_
  refine x_iconst X dL_law_612 ?_
  refine x_iadd X dL_law_613 ?_
  refine x_sld X hW hS (i + 3) (by omega) (by omega) hz3 dL_law_614 ?_
  refine x_ci (x_runV (As := [.int (iI z1), .int (iI z2), .int (iI z3)]) (k := 3) (rest := []) X hW (c_X10_yes l E A 227 H.size g 0 bk py z1 z2 z3 (by omega) c0 cK hI1 hI2 hI3) (by omega) c0 rfl gL_law_X10_yes rfl rfl rfl (by decide +kernel) ⟨(Nat.le_of_ble_eq_true rfl), (Nat.le_of_ble_eq_true rfl)⟩ rfl hl.1 rfl (Nat.le_of_ble_eq_true rfl) dL_law_615 hcs) hW (fun r1 g1 H locs hp1 hW => ?_)
  obtain ⟨e1, s1, hf1⟩ := hp1
  have hM1 := LM_fr (g' := g1) hM (fun j h => hf1 j (by omega))
  obtain ⟨q, m0, mq, mN, mR, mB, mC, mP, mH, mX, f16, m16⟩ := hM1
  obtain ⟨N, hN, hN0, hN1⟩ := id mN
  refine lv_aload_n X.1 X.2.1 dL_law_618 rfl (lv_at hl 1 rfl) ?_
  refine lv_aload_n X.1 X.2.1 dL_law_619 rfl (lv_at hl 3 rfl) ?_
  refine lv_iload_n X.1 X.2.1 dL_law_620 rfl (lv_at hl 0 rfl) ?_
  refine x_iconst X dL_law_621 ?_
  refine x_iadd X dL_law_622 ?_
  refine x_sld X hW hS (i + 1) (by omega) (by omega) hz1 dL_law_623 ?_
  refine lv_aload_n X.1 X.2.1 dL_law_624 rfl (lv_at hl 3 rfl) ?_
  refine lv_iload_n X.1 X.2.1 dL_law_625 rfl (lv_at hl 0 rfl) ?_
  refine x_iconst X dL_law_626 ?_
  refine x_iadd X dL_law_627 ?_
  refine x_sld X hW hS (i + 2) (by omega) (by omega) hz2 dL_law_628 ?_
  refine lv_aload_n X.1 X.2.1 dL_law_629 rfl (lv_at hl 3 rfl) ?_
  refine lv_iload_n X.1 X.2.1 dL_law_630 rfl (lv_at hl 0 rfl) ?_
  refine x_iconst X dL_law_631 ?_
  refine x_iadd X dL_law_632 ?_
  refine x_sld X hW hS (i + 3) (by omega) (by omega) hz3 dL_law_633 ?_
  refine x_ci (x_runV (As := [.int (iI z1), .int (iI z2), .int (iI z3)]) (k := 3) (rest := [.int r1]) X hW (c_X11_yes l E A 227 H.size g1 210 q N py z1 z2 z3 (by omega) m0 hN mP hI1 hI2 hI3) (by omega) m0 rfl gL_law_X11_yes rfl rfl rfl (by decide +kernel) ⟨(Nat.le_of_ble_eq_true rfl), (Nat.le_of_ble_eq_true rfl)⟩ rfl hl.1 rfl (Nat.le_of_ble_eq_true rfl) dL_law_634 hcs) hW (fun r2 g2 H2 locs2 hp2 hW2 => ?_)
  obtain ⟨e2, ⟨N', hN', hNx⟩, hf2⟩ := hp2
  obtain rfl : r1 = r2 := e1.trans e2.symm
  refine lv_icmp_eq (tgt := 909) X.1 X.2.1 dL_law_637 (by decide) (fun c_ => ?_) (fun c_ => absurd rfl c_)
  have hC1 : LC E A g1 0 rw rl nm bk L cz co br py hz ta tb xz bx px P Q od tz bz := ⟨(hf1 0 (by omega)).trans c0, cR.frame (hf1 _ (by omega)) (fun j h1 h2 => hf1 j (by omega)), cB.frame (hf1 _ (by omega)) (fun j h1 h2 => hf1 j (by omega)), cT.frame (fun j h1 h2 => hf1 j (by omega)), cC.frame (fun j h1 h2 => hf1 j (by omega)), cP.frame (fun j h1 h2 => hf1 j (by omega)), s1, cH.frame (fun j h1 h2 => hf1 j (by omega)), cX.frame (fun j h1 h2 => hf1 j (by omega))⟩
  have hC2 := LC_fr (g' := g2) hC1 (fun j h => hf2 j (by omega))
  have hM2 : LM E A g2 210 rw rl nm bk L cz co br py hz ta tb xz bx px P Q od tz bz := ⟨q, (hf2 210 (by omega)).trans m0, mq, ⟨N', hN', (hNx 0 (by decide)).trans hN0, (hNx 1 (by decide)).trans hN1⟩, mR.frame (hf2 _ (by omega)) (hf2 _ (by omega)) (hf2 _ (by omega)), mB.frame (fun j h1 h2 => hf2 j (by omega)), mC.frame (hf2 _ (by omega)) (hf2 _ (by omega)), mP.frame (hf2 _ (by omega)), mH.frame (hf2 _ (by omega)) (hf2 _ (by omega)), mX.frame (hf2 _ (by omega)) (hf2 _ (by omega)), ⟨f16, (hf2 _ (by omega)).trans m16⟩⟩
  exact kont g2 H2 locs2 hW2 ⟨_, _, _, _, _, _, _, _, _, _, _, _, _, _, _, _, _, _, _, _, hC2, hM2, hP⟩
set_option maxHeartbeats 4000000 in
set_option maxRecDepth 100000 in
theorem op_last {p : Program} {l : Launch} {e : Env} {s : State} {m : MethodId} {args : Array Value} {below : List Frame} {meth : Method} {c : Code} {H : Heap} {locs : List Loc} {cells slots : Nat} {QQ : State → Prop} {E : wE} {A : Nat → Nat} {g : Nat → va_E} {ls : Array Slot} {b LL i : Nat} {xs : Nat → Int32} (X : CallFix p m c cL_law 4 s args wsL_law RL) (hcs : cells ≤ room_1.cells ∧ slots ≤ room_1.slots) (hS : SX (fun q => s.heap.size ≤ q) s b LL xs) (hW : wH E (fun q => s.heap.size ≤ q) A 227 s g H locs) (hI : LI E A g) (hi : i + 5 ≤ LL) (hl : lv_has ls 4 [(3, .int (iI (i : Int))), (2, .ref (A 210)), (1, .ref (A 0)), (0, .ref b)])
    (kont : ∀ (g' : Nat → va_E) (H' : Heap) (locs' : List Loc), wH E (fun q => s.heap.size ≤ q) A 227 s g' H' locs' → LI E A g' → W p l e room_1 s m args below meth c H' locs' cells slots QQ (F0 m 909 ls [])) : W p l e room_1 s m args below meth c H locs cells slots QQ (F0 m 688 ls []) := by
  have hb4 := hS.2.2.2
  obtain ⟨rw, rl, nm, bk, L, cz, co, br, py, hz, ta, tb, xz, bx, px, P, Q, od, tz, bz, hC, hM, hP⟩ := hI
  obtain ⟨c0, cR, cB, cT, cC, cP, cK, cH, cX⟩ := id hC
  obtain ⟨⟨fb16, fbk⟩, ⟨fc10, fck⟩, ⟨fx6, fxk⟩, ⟨fh20, fhk⟩, fpy⟩ := LM_facts hM
  refine lv_aload_n X.1 X.2.1 dL_law_688 rfl (lv_at hl 2 rfl) ?_
  refine x_ci (x_runV (As := []) (k := 0) (rest := []) X hW (c_X10_last l E A 227 H.size g 0 bk hz ta tb (by omega) c0 cH cT.any) (by omega) c0 rfl gL_law_X10_last rfl rfl rfl (by decide +kernel) ⟨(Nat.le_of_ble_eq_true rfl), (Nat.le_of_ble_eq_true rfl)⟩ rfl hl.1 rfl (Nat.le_of_ble_eq_true rfl) dL_law_689 hcs) hW (fun r1 g1 H locs hp1 hW => ?_)
  obtain ⟨u1, s1, hf1⟩ := hp1
  have hM1 := LM_fr (g' := g1) hM (fun j h => hf1 j (by omega))
  obtain ⟨q, m0, mq, mN, mR, mB, mC, mP, mH, mX, f16, m16⟩ := hM1
  obtain ⟨N, hN, hN0, hN1⟩ := id mN
  refine lv_aload_n X.1 X.2.1 dL_law_692 rfl (lv_at hl 1 rfl) ?_
  refine x_ci (x_runV (As := []) (k := 0) (rest := [.int r1]) X hW (c_X11_last l E A 227 H.size g1 210 q N hz ta tb (by omega) m0 hN mq.2.2.1 mH) (by omega) m0 rfl gL_law_X11_last rfl rfl rfl (by decide +kernel) ⟨(Nat.le_of_ble_eq_true rfl), (Nat.le_of_ble_eq_true rfl)⟩ rfl hl.1 rfl (Nat.le_of_ble_eq_true rfl) dL_law_693 hcs) hW (fun r2 g2 H2 locs2 hp2 hW2 => ?_)
  obtain ⟨u2, s2, hf2⟩ := hp2
  have n1 : ¬ 0 < hz → g1 = g := fun h => (u1 (by omega)).2
  have n2 : ¬ 0 < hz → g2 = g1 := fun h => (u2 (by omega)).2
  obtain rfl : r1 = r2 := by
    rcases Nat.eq_zero_or_pos hz with hc | hc
    · rw [(u1 hc).1, (u2 hc).1]
    · rw [(s1 hc).1, (s2 hc).1]
  refine lv_icmp_eq (tgt := 909) X.1 X.2.1 dL_law_696 (by decide) (fun c_ => ?_) (fun c_ => absurd rfl c_)
  by_cases hc : 0 < hz
  · skip
    have h44 := hp44 fh20 fhk
    have hC1 : LC E A g1 0 rw rl nm bk L cz co br py hz ta tb xz bx px P Q od (rdT ((hpM ta tb hz hz : Nat) : Int) (pr tb hz)) (rdB ((hpM ta tb hz hz : Nat) : Int) (pr tb hz)) := ⟨(hf1 0 (by omega)).trans c0, cR.frame (hf1 _ (by omega)) (fun j h1 h2 => hf1 j (by omega)), cB.frame (hf1 _ (by omega)) (fun j h1 h2 => hf1 j (by omega)), (s1 hc).2.1, cC.frame (fun j h1 h2 => hf1 j (by omega)), cP.frame (fun j h1 h2 => hf1 j (by omega)), cK.frame (fun j h1 h2 => hf1 j (by omega)), (s1 hc).2.2, cX.frame (fun j h1 h2 => hf1 j (by omega))⟩
    have hC2 := LC_fr (g' := g2) hC1 (fun j h => hf2 j (by omega))
    have hM2 : LM E A g2 210 rw rl nm bk L cz co br py hz ta tb xz bx px P Q od (rdT ((hpM ta tb hz hz : Nat) : Int) (pr tb hz)) (rdB ((hpM ta tb hz hz : Nat) : Int) (pr tb hz)) := ⟨q, (hf2 210 (by omega)).trans m0, mq, (s2 hc).2, mR.frame (hf2 _ (by omega)) (hf2 _ (by omega)) (hf2 _ (by omega)), mB.frame (fun j h1 h2 => hf2 j (by omega)), mC.frame (hf2 _ (by omega)) (hf2 _ (by omega)), mP.frame (hf2 _ (by omega)), mH.frame (hf2 _ (by omega)) (hf2 _ (by omega)), mX.frame (hf2 _ (by omega)) (hf2 _ (by omega)), ⟨f16, (hf2 _ (by omega)).trans m16⟩⟩
    exact kont g2 H2 locs2 hW2 ⟨_, _, _, _, _, _, _, _, _, _, _, _, _, _, _, _, _, _, _, _, hC2, hM2, ⟨rd44 (by rw [Int.natAbs_natCast]; exact h44.1) h44.2, hP.2⟩⟩
  · obtain rfl := n1 hc
    obtain rfl := n2 hc
    exact kont _ H2 locs2 hW2 ⟨_, _, _, _, _, _, _, _, _, _, _, _, _, _, _, _, _, _, _, _, hC, hM, hP⟩
set_option maxHeartbeats 4000000 in
set_option maxRecDepth 100000 in
theorem op_fair {p : Program} {l : Launch} {e : Env} {s : State} {m : MethodId} {args : Array Value} {below : List Frame} {meth : Method} {c : Code} {H : Heap} {locs : List Loc} {cells slots : Nat} {QQ : State → Prop} {E : wE} {A : Nat → Nat} {g : Nat → va_E} {ls : Array Slot} {b LL i : Nat} {xs : Nat → Int32} (X : CallFix p m c cL_law 4 s args wsL_law RL) (hcs : cells ≤ room_1.cells ∧ slots ≤ room_1.slots) (hS : SX (fun q => s.heap.size ≤ q) s b LL xs) (hW : wH E (fun q => s.heap.size ≤ q) A 227 s g H locs) (hI : LI E A g) (hi : i + 5 ≤ LL) (hl : lv_has ls 4 [(3, .int (iI (i : Int))), (2, .ref (A 210)), (1, .ref (A 0)), (0, .ref b)])
    (kont : ∀ (g' : Nat → va_E) (H' : Heap) (locs' : List Loc), wH E (fun q => s.heap.size ≤ q) A 227 s g' H' locs' → LI E A g' → W p l e room_1 s m args below meth c H' locs' cells slots QQ (F0 m 909 ls [])) : W p l e room_1 s m args below meth c H locs cells slots QQ (F0 m 747 ls []) := by
  have hb4 := hS.2.2.2
  obtain ⟨z1, hz1, hI1⟩ := i32_of (xs (i + 1))
  obtain ⟨rw, rl, nm, bk, L, cz, co, br, py, hz, ta, tb, xz, bx, px, P, Q, od, tz, bz, hC, hM, hP⟩ := hI
  obtain ⟨c0, cR, cB, cT, cC, cP, cK, cH, cX⟩ := id hC
  refine lv_aload_n X.1 X.2.1 dL_law_747 rfl (lv_at hl 2 rfl) ?_
  refine lv_aload_n X.1 X.2.1 dL_law_748 rfl (lv_at hl 3 rfl) ?_
  refine lv_iload_n X.1 X.2.1 dL_law_749 rfl (lv_at hl 0 rfl) ?_
  refine x_iconst X dL_law_750 ?_
  refine x_iadd X dL_law_751 ?_
  refine x_sld X hW hS (i + 1) (by omega) (by omega) hz1 dL_law_752 ?_
  refine x_ci (x_runV (As := [.int (iI z1)]) (k := 1) (rest := []) X hW (c_X10_fair l E A 227 H.size g 0 bk xz bx px P Q od z1 (by omega) c0 cX cT.any hI1) (by omega) c0 rfl gL_law_X10_fair rfl rfl rfl (by decide +kernel) ⟨(Nat.le_of_ble_eq_true rfl), (Nat.le_of_ble_eq_true rfl)⟩ rfl hl.1 rfl (Nat.le_of_ble_eq_true rfl) dL_law_753 hcs) hW (fun r1 g1 H locs hp1 hW => ?_)
  obtain ⟨e1, s1, n1, hf1⟩ := hp1
  have hM1 := LM_fr (g' := g1) hM (fun j h => hf1 j (by omega))
  obtain ⟨q, m0, mq, mN, mR, mB, mC, mP, mH, mX, f16, m16⟩ := hM1
  obtain ⟨N, hN, hN0, hN1⟩ := id mN
  refine lv_aload_n X.1 X.2.1 dL_law_756 rfl (lv_at hl 1 rfl) ?_
  refine lv_aload_n X.1 X.2.1 dL_law_757 rfl (lv_at hl 3 rfl) ?_
  refine lv_iload_n X.1 X.2.1 dL_law_758 rfl (lv_at hl 0 rfl) ?_
  refine x_iconst X dL_law_759 ?_
  refine x_iadd X dL_law_760 ?_
  refine x_sld X hW hS (i + 1) (by omega) (by omega) hz1 dL_law_761 ?_
  refine x_ci (x_runV (As := [.int (iI z1)]) (k := 1) (rest := [.int r1]) X hW (c_X11_fair l E A 227 H.size g1 210 q N bk L xz bx px z1 (by omega) m0 hN mB mq.2.2.2 mX hI1) (by omega) m0 rfl gL_law_X11_fair rfl rfl rfl (by decide +kernel) ⟨(Nat.le_of_ble_eq_true rfl), (Nat.le_of_ble_eq_true rfl)⟩ rfl hl.1 rfl (Nat.le_of_ble_eq_true rfl) dL_law_762 hcs) hW (fun r2 g2 H2 locs2 hp2 hW2 => ?_)
  obtain ⟨e2, s2, n2, hf2⟩ := hp2
  obtain rfl : r1 = r2 := e1.trans e2.symm
  refine lv_icmp_eq (tgt := 909) X.1 X.2.1 dL_law_765 (by decide) (fun c_ => ?_) (fun c_ => absurd rfl c_)
  by_cases hc : 0 ≤ z1 ∧ z1 < (xz : Int)
  · skip
    obtain ⟨P2, Q2, hF2, hm2⟩ := s2 hc
    have hF1 := hP.2 z1.toNat (by omega)
    have hx := rd_cross hF1.1 hF2.1 (FairV_one hF1 hF2)
    rw [← hx.1, ← hx.2] at hm2
    have hFR : FairR (P z1.toNat) (Q z1.toNat) := by
      obtain ⟨-, -, -, -, ⟨fp, ft, fb, fo, -, -, -, -, hk⟩, -⟩ := cX
      exact (hk z1.toNat (by omega)).2.2.2.1
    have h44 := fr44 hFR
    have hC1 : LC E A g1 0 rw rl nm bk L cz co br py hz ta tb xz bx px P Q od (rdT (P z1.toNat) (Q z1.toNat)) (rdB (P z1.toNat) (Q z1.toNat)) := ⟨(hf1 0 (by omega)).trans c0, cR.frame (hf1 _ (by omega)) (fun j h1 h2 => hf1 j (by omega)), cB.frame (hf1 _ (by omega)) (fun j h1 h2 => hf1 j (by omega)), (s1 hc).1, cC.frame (fun j h1 h2 => hf1 j (by omega)), cP.frame (fun j h1 h2 => hf1 j (by omega)), cK.frame (fun j h1 h2 => hf1 j (by omega)), cH.frame (fun j h1 h2 => hf1 j (by omega)), (s1 hc).2⟩
    have hC2 := LC_fr (g' := g2) hC1 (fun j h => hf2 j (by omega))
    have hM2 : LM E A g2 210 rw rl nm bk L cz co br py hz ta tb xz bx px P Q od (rdT (P z1.toNat) (Q z1.toNat)) (rdB (P z1.toNat) (Q z1.toNat)) := ⟨q, (hf2 210 (by omega)).trans m0, mq, hm2, mR.frame (hf2 _ (by omega)) (hf2 _ (by omega)) (hf2 _ (by omega)), mB.frame (fun j h1 h2 => hf2 j (by omega)), mC.frame (hf2 _ (by omega)) (hf2 _ (by omega)), mP.frame (hf2 _ (by omega)), mH.frame (hf2 _ (by omega)) (hf2 _ (by omega)), mX.frame (hf2 _ (by omega)) (hf2 _ (by omega)), ⟨f16, (hf2 _ (by omega)).trans m16⟩⟩
    exact kont g2 H2 locs2 hW2 ⟨_, _, _, _, _, _, _, _, _, _, _, _, _, _, _, _, _, _, _, _, hC2, hM2, ⟨rd44 h44.1 h44.2, hP.2⟩⟩
  · obtain rfl := n1 hc
    obtain rfl := n2 hc
    exact kont _ H2 locs2 hW2 ⟨_, _, _, _, _, _, _, _, _, _, _, _, _, _, _, _, _, _, _, _, hC, hM, hP⟩
set_option maxHeartbeats 4000000 in
set_option maxRecDepth 100000 in
theorem op_search {p : Program} {l : Launch} {e : Env} {s : State} {m : MethodId} {args : Array Value} {below : List Frame} {meth : Method} {c : Code} {H : Heap} {locs : List Loc} {cells slots : Nat} {QQ : State → Prop} {E : wE} {A : Nat → Nat} {g : Nat → va_E} {ls : Array Slot} {b LL i : Nat} {xs : Nat → Int32} (X : CallFix p m c cL_law 4 s args wsL_law RL) (hcs : cells ≤ room_1.cells ∧ slots ≤ room_1.slots) (hS : SX (fun q => s.heap.size ≤ q) s b LL xs) (hW : wH E (fun q => s.heap.size ≤ q) A 227 s g H locs) (hI : LI E A g) (hi : i + 5 ≤ LL) (hl : lv_has ls 4 [(3, .int (iI (i : Int))), (2, .ref (A 210)), (1, .ref (A 0)), (0, .ref b)])
    (kont : ∀ (g' : Nat → va_E) (H' : Heap) (locs' : List Loc), wH E (fun q => s.heap.size ≤ q) A 227 s g' H' locs' → LI E A g' → W p l e room_1 s m args below meth c H' locs' cells slots QQ (F0 m 909 ls [])) : W p l e room_1 s m args below meth c H locs cells slots QQ (F0 m 770 ls []) := by
  have hb4 := hS.2.2.2
  obtain ⟨rw, rl, nm, bk, L, cz, co, br, py, hz, ta, tb, xz, bx, px, P, Q, od, tz, bz, hC, hM, hP⟩ := hI
  obtain ⟨c0, cR, cB, cT, cC, cP, cK, cH, cX⟩ := id hC
  obtain ⟨⟨fb16, fbk⟩, ⟨fc10, fck⟩, ⟨fx6, fxk⟩, ⟨fh20, fhk⟩, fpy⟩ := LM_facts hM
  have hok : ∀ k, k < xz → bOK (LkM L bx k) := fun k hk => (fbk (bx k) (fxk k hk).1).1
  have hFx : ∀ k, k < xz → FairV (LkM L bx k) ((px k * bE (LkM L bx k) (fun _ => 1) : Nat) : Int) (P k) (Q k) := hP.2
  have hsum := sum_same (px := px) fx6 hok hFx cX.2.2.2.2.2.1
  have hrng := bxV_rng (fairA hFx) fx6 hok
  have hbell := bxV_bell (fairA hFx) fx6 hok
  refine lv_aload_n X.1 X.2.1 dL_law_770 rfl (lv_at hl 2 rfl) ?_
  refine x_cv (x_runV (As := []) (k := 0) (rest := []) X hW (c_X10_search l E A 227 H.size g 0 bk L xz bx px P Q od (by omega) c0 cB cX (fun k hk => (fxk k hk).1) cT.any) (by omega) c0 rfl gL_law_X10_search rfl rfl rfl (by decide +kernel) ⟨(Nat.le_of_ble_eq_true rfl), (Nat.le_of_ble_eq_true rfl)⟩ rfl hl.1 rfl (Nat.le_of_ble_eq_true rfl) dL_law_771 hcs) hW (fun g1 H locs hp1 hW => ?_)
  obtain ⟨s1, t1, hf1⟩ := hp1
  have hM1 := LM_fr (g' := g1) hM (fun j h => hf1 j (by omega))
  obtain ⟨q, m0, mq, mN, mR, mB, mC, mP, mH, mX, f16, m16⟩ := hM1
  obtain ⟨N, hN, hN0, hN1⟩ := id mN
  refine lv_aload_n X.1 X.2.1 dL_law_774 rfl (lv_at hl 1 rfl) ?_
  refine x_cv (x_runV (As := []) (k := 0) (rest := []) X hW (c_X11_search l E A 227 H.size g1 210 q N bk L xz bx px (bxV (LkM L bx) px xz) (by omega) m0 hN mB mq.2.2.2 mX ⟨f16, m16⟩ (fun st x => hrng st x) hbell) (by omega) m0 rfl gL_law_X11_search rfl rfl rfl (by decide +kernel) ⟨(Nat.le_of_ble_eq_true rfl), (Nat.le_of_ble_eq_true rfl)⟩ rfl hl.1 rfl (Nat.le_of_ble_eq_true rfl) dL_law_775 hcs) hW (fun g2 H2 locs2 hp2 hW2 => ?_)
  obtain ⟨s2, ⟨v2, o2⟩, ⟨f3, m3⟩, hf2⟩ := hp2
  refine lv_goto (tgt := 909) X.1 X.2.1 dL_law_778 (by decide) ?_
  have hpr : prT (fun k => LkM L bx (od k)) xz ≤ 10 ^ 44 := by rw [hsum.2]; exact p8044 (prT44 (by omega) hok)
  have hsr : srS (LkM L bx) px od xz ≤ 10 ^ 44 := by
    have h1 := (hrng 0 0).2
    rw [hsum.1] at h1
    exact Nat.le_trans (Int.ofNat_le.mp h1) (by decide)
  rw [hsum.1, ← hsum.2] at s2
  have hC1 : LC E A g1 0 rw rl nm bk L cz co br py hz ta tb xz bx px P Q od (rdT ((srS (LkM L bx) px od xz : Nat) : Int) (prT (fun k => LkM L bx (od k)) xz)) (rdB ((srS (LkM L bx) px od xz : Nat) : Int) (prT (fun k => LkM L bx (od k)) xz)) := ⟨(hf1 0 (by omega)).trans c0, cR.frame (hf1 _ (by omega)) (fun j h1 h2 => hf1 j (by omega)), cB.frame (hf1 _ (by omega)) (fun j h1 h2 => hf1 j (by omega)), s1, cC.frame (fun j h1 h2 => hf1 j (by omega)), cP.frame (fun j h1 h2 => hf1 j (by omega)), cK.frame (fun j h1 h2 => hf1 j (by omega)), cH.frame (fun j h1 h2 => hf1 j (by omega)), t1⟩
  have hC2 := LC_fr (g' := g2) hC1 (fun j h => hf2 j (by omega))
  have hM2 : LM E A g2 210 rw rl nm bk L cz co br py hz ta tb xz bx px P Q od (rdT ((srS (LkM L bx) px od xz : Nat) : Int) (prT (fun k => LkM L bx (od k)) xz)) (rdB ((srS (LkM L bx) px od xz : Nat) : Int) (prT (fun k => LkM L bx (od k)) xz)) := ⟨(va_up q 4 v2), o2, ⟨by rw [va_up_ne (k := 4) (j := 0) _ _ (by decide)]; exact mq.1, by rw [va_up_ne (k := 4) (j := 1) _ _ (by decide)]; exact mq.2.1, by rw [va_up_ne (k := 4) (j := 2) _ _ (by decide)]; exact mq.2.2.1, by rw [va_up_ne (k := 4) (j := 3) _ _ (by decide)]; exact mq.2.2.2⟩, s2, mR.frame (hf2 _ (by omega)) (hf2 _ (by omega)) (hf2 _ (by omega)), mB.frame (fun j h1 h2 => hf2 j (by omega)), mC.frame (hf2 _ (by omega)) (hf2 _ (by omega)), mP.frame (hf2 _ (by omega)), mH.frame (hf2 _ (by omega)) (hf2 _ (by omega)), mX.frame (hf2 _ (by omega)) (hf2 _ (by omega)), ⟨f3, m3⟩⟩
  exact kont g2 H2 locs2 hW2 ⟨_, _, _, _, _, _, _, _, _, _, _, _, _, _, _, _, _, _, _, _, hC2, hM2, ⟨rd44 (by rw [Int.natAbs_natCast]; exact hsr) hpr, hP.2⟩⟩
