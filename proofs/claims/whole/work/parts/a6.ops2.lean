set_option maxHeartbeats 4000000 in
set_option maxRecDepth 100000 in
theorem op_comer {p : Program} {l : Launch} {e : Env} {s : State} {m : MethodId} {args : Array Value} {below : List Frame} {meth : Method} {c : Code} {H : Heap} {locs : List Loc} {cells slots : Nat} {QQ : State → Prop} {E : wE} {A : Nat → Nat} {g : Nat → va_E} {ls : Array Slot} {b LL i : Nat} {xs : Nat → Int32} (X : CallFix p m c cL_law 4 s args wsL_law RL) (hcs : cells ≤ room_1.cells ∧ slots ≤ room_1.slots) (hS : SX (fun q => s.heap.size ≤ q) s b LL xs) (hW : wH E (fun q => s.heap.size ≤ q) A 227 s g H locs) (hI : LI E A g) (hi : i + 5 ≤ LL) (hl : lv_has ls 4 [(3, .int (iI (i : Int))), (2, .ref (A 210)), (1, .ref (A 0)), (0, .ref b)])
    (kont : ∀ (g' : Nat → va_E) (H' : Heap) (locs' : List Loc), wH E (fun q => s.heap.size ≤ q) A 227 s g' H' locs' → LI E A g' → W p l e room_1 s m args below meth c H' locs' cells slots QQ (F0 m 909 ls [])) : W p l e room_1 s m args below meth c H locs cells slots QQ (F0 m 326 ls []) := by
  have hb4 := hS.2.2.2
  obtain ⟨z1, hz1, hI1⟩ := i32_of (xs (i + 1))
  obtain ⟨rw, rl, nm, bk, L, cz, co, br, py, hz, ta, tb, xz, bx, px, P, Q, od, tz, bz, hC, hM, hP⟩ := hI
  obtain ⟨c0, cR, cB, cT, cC, cP, cK, cH, cX⟩ := id hC
  refine lv_aload_n X.1 X.2.1 dL_law_326 rfl (lv_at hl 2 rfl) ?_
  refine lv_aload_n X.1 X.2.1 dL_law_327 rfl (lv_at hl 3 rfl) ?_
  refine lv_iload_n X.1 X.2.1 dL_law_328 rfl (lv_at hl 0 rfl) ?_
  refine x_iconst X dL_law_329 ?_
  refine x_iadd X dL_law_330 ?_
  refine x_sld X hW hS (i + 1) (by omega) (by omega) hz1 dL_law_331 ?_
  refine x_ci (x_runV (As := [.int (iI z1)]) (k := 1) (rest := []) X hW (c_X10_comer l E A 227 H.size g 0 bk L cz co br z1 (by omega) c0 cB cC hI1) (by omega) c0 rfl gL_law_X10_comer rfl rfl rfl (by decide +kernel) ⟨(Nat.le_of_ble_eq_true rfl), (Nat.le_of_ble_eq_true rfl)⟩ rfl hl.1 rfl (Nat.le_of_ble_eq_true rfl) dL_law_332 hcs) hW (fun r1 g1 H locs hp1 hW => ?_)
  obtain ⟨e1, s1, n1, hf1⟩ := hp1
  have hM1 := LM_fr (g' := g1) hM (fun j h => hf1 j (by omega))
  obtain ⟨q, m0, mq, mN, mR, mB, mC, mP, mH, mX, f16, m16⟩ := hM1
  refine lv_aload_n X.1 X.2.1 dL_law_335 rfl (lv_at hl 1 rfl) ?_
  refine lv_aload_n X.1 X.2.1 dL_law_336 rfl (lv_at hl 3 rfl) ?_
  refine lv_iload_n X.1 X.2.1 dL_law_337 rfl (lv_at hl 0 rfl) ?_
  refine x_iconst X dL_law_338 ?_
  refine x_iadd X dL_law_339 ?_
  refine x_sld X hW hS (i + 1) (by omega) (by omega) hz1 dL_law_340 ?_
  refine x_ci (x_runV (As := [.int (iI z1)]) (k := 1) (rest := [.int r1]) X hW (c_X11_comer l E A 227 H.size g1 210 q bk cz co br z1 (by omega) m0 mq.1 mq.2.1 cB.2.1 mC hI1) (by omega) m0 rfl gL_law_X11_comer rfl rfl rfl (by decide +kernel) ⟨(Nat.le_of_ble_eq_true rfl), (Nat.le_of_ble_eq_true rfl)⟩ rfl hl.1 rfl (Nat.le_of_ble_eq_true rfl) dL_law_341 hcs) hW (fun r2 g2 H2 locs2 hp2 hW2 => ?_)
  obtain ⟨e2, s2, n2, hf2⟩ := hp2
  obtain rfl : r1 = r2 := e1.trans e2.symm
  refine lv_icmp_eq (tgt := 909) X.1 X.2.1 dL_law_344 (by decide) (fun c_ => ?_) (fun c_ => absurd rfl c_)
  rcases Int.lt_or_le (coR bk cz z1) 0 with hc | hc
  · obtain rfl := n1 hc
    obtain rfl := n2 hc
    exact kont _ H2 locs2 hW2 ⟨_, _, _, _, _, _, _, _, _, _, _, _, _, _, _, _, _, _, _, _, hC, hM, hP⟩
  · have hC1 : LC E A g1 0 rw rl nm bk L (cz + 1) (va_up co cz z1.toNat) (va_up br cz 0) py hz ta tb xz bx px P Q od tz bz := ⟨(hf1 0 (by omega)).trans c0, cR.frame (hf1 _ (by omega)) (fun j h1 h2 => hf1 j (by omega)), cB.frame (hf1 _ (by omega)) (fun j h1 h2 => hf1 j (by omega)), cT.frame (fun j h1 h2 => hf1 j (by omega)), s1 hc, cP.frame (fun j h1 h2 => hf1 j (by omega)), cK.frame (fun j h1 h2 => hf1 j (by omega)), cH.frame (fun j h1 h2 => hf1 j (by omega)), cX.frame (fun j h1 h2 => hf1 j (by omega))⟩
    have hC2 := LC_fr (g' := g2) hC1 (fun j h => hf2 j (by omega))
    have hM2 : LM E A g2 210 rw rl nm bk L (cz + 1) (va_up co cz z1.toNat) (va_up br cz 0) py hz ta tb xz bx px P Q od tz bz := ⟨(va_up q 1 ((cz : Int) + 1)), (s2 hc).1, ⟨by rw [va_up_ne (k := 1) (j := 0) _ _ (by decide)]; exact mq.1, by rw [va_up_self]; omega, by rw [va_up_ne (k := 1) (j := 2) _ _ (by decide)]; exact mq.2.2.1, by rw [va_up_ne (k := 1) (j := 3) _ _ (by decide)]; exact mq.2.2.2⟩, MR_frame mN (hf2 _ (by omega)), mR.frame (hf2 _ (by omega)) (hf2 _ (by omega)) (hf2 _ (by omega)), mB.frame (fun j h1 h2 => hf2 j (by omega)), (s2 hc).2, mP.frame (hf2 _ (by omega)), mH.frame (hf2 _ (by omega)) (hf2 _ (by omega)), mX.frame (hf2 _ (by omega)) (hf2 _ (by omega)), ⟨f16, (hf2 _ (by omega)).trans m16⟩⟩
    exact kont g2 H2 locs2 hW2 ⟨_, _, _, _, _, _, _, _, _, _, _, _, _, _, _, _, _, _, _, _, hC2, hM2, hP⟩
set_option maxHeartbeats 4000000 in
set_option maxRecDepth 100000 in
theorem op_happen {p : Program} {l : Launch} {e : Env} {s : State} {m : MethodId} {args : Array Value} {below : List Frame} {meth : Method} {c : Code} {H : Heap} {locs : List Loc} {cells slots : Nat} {QQ : State → Prop} {E : wE} {A : Nat → Nat} {g : Nat → va_E} {ls : Array Slot} {b LL i : Nat} {xs : Nat → Int32} (X : CallFix p m c cL_law 4 s args wsL_law RL) (hcs : cells ≤ room_1.cells ∧ slots ≤ room_1.slots) (hS : SX (fun q => s.heap.size ≤ q) s b LL xs) (hW : wH E (fun q => s.heap.size ≤ q) A 227 s g H locs) (hI : LI E A g) (hi : i + 5 ≤ LL) (hl : lv_has ls 4 [(3, .int (iI (i : Int))), (2, .ref (A 210)), (1, .ref (A 0)), (0, .ref b)])
    (kont : ∀ (g' : Nat → va_E) (H' : Heap) (locs' : List Loc), wH E (fun q => s.heap.size ≤ q) A 227 s g' H' locs' → LI E A g' → W p l e room_1 s m args below meth c H' locs' cells slots QQ (F0 m 909 ls [])) : W p l e room_1 s m args below meth c H locs cells slots QQ (F0 m 642 ls []) := by
  have hb4 := hS.2.2.2
  obtain ⟨z1, hz1, hI1⟩ := i32_of (xs (i + 1))
  obtain ⟨z2, hz2, hI2⟩ := i32_of (xs (i + 2))
  obtain ⟨rw, rl, nm, bk, L, cz, co, br, py, hz, ta, tb, xz, bx, px, P, Q, od, tz, bz, hC, hM, hP⟩ := hI
  obtain ⟨c0, cR, cB, cT, cC, cP, cK, cH, cX⟩ := id hC
  refine lv_aload_n X.1 X.2.1 dL_law_642 rfl (lv_at hl 2 rfl) ?_
  refine lv_aload_n X.1 X.2.1 dL_law_643 rfl (lv_at hl 3 rfl) ?_
  refine lv_iload_n X.1 X.2.1 dL_law_644 rfl (lv_at hl 0 rfl) ?_
  refine x_iconst X dL_law_645 ?_
  refine x_iadd X dL_law_646 ?_
  refine x_sld X hW hS (i + 1) (by omega) (by omega) hz1 dL_law_647 ?_
  refine lv_aload_n X.1 X.2.1 dL_law_648 rfl (lv_at hl 3 rfl) ?_
  refine lv_iload_n X.1 X.2.1 dL_law_649 rfl (lv_at hl 0 rfl) ?_
  refine x_iconst X dL_law_650 ?_
  refine x_iadd X dL_law_651 ?_
  refine x_sld X hW hS (i + 2) (by omega) (by omega) hz2 dL_law_652 ?_
  refine x_ci (x_runV (As := [.int (iI z1), .int (iI z2)]) (k := 2) (rest := []) X hW (c_X10_happen l E A 227 H.size g 0 bk hz ta tb z1 z2 (by omega) c0 cH hI1 hI2) (by omega) c0 rfl gL_law_X10_happen rfl rfl rfl (by decide +kernel) ⟨(Nat.le_of_ble_eq_true rfl), (Nat.le_of_ble_eq_true rfl)⟩ rfl hl.1 rfl (Nat.le_of_ble_eq_true rfl) dL_law_653 hcs) hW (fun r1 g1 H locs hp1 hW => ?_)
  obtain ⟨e1, s1, n1, hf1⟩ := hp1
  have hM1 := LM_fr (g' := g1) hM (fun j h => hf1 j (by omega))
  obtain ⟨q, m0, mq, mN, mR, mB, mC, mP, mH, mX, f16, m16⟩ := hM1
  refine lv_aload_n X.1 X.2.1 dL_law_656 rfl (lv_at hl 1 rfl) ?_
  refine lv_aload_n X.1 X.2.1 dL_law_657 rfl (lv_at hl 3 rfl) ?_
  refine lv_iload_n X.1 X.2.1 dL_law_658 rfl (lv_at hl 0 rfl) ?_
  refine x_iconst X dL_law_659 ?_
  refine x_iadd X dL_law_660 ?_
  refine x_sld X hW hS (i + 1) (by omega) (by omega) hz1 dL_law_661 ?_
  refine lv_aload_n X.1 X.2.1 dL_law_662 rfl (lv_at hl 3 rfl) ?_
  refine lv_iload_n X.1 X.2.1 dL_law_663 rfl (lv_at hl 0 rfl) ?_
  refine x_iconst X dL_law_664 ?_
  refine x_iadd X dL_law_665 ?_
  refine x_sld X hW hS (i + 2) (by omega) (by omega) hz2 dL_law_666 ?_
  refine x_ci (x_runV (As := [.int (iI z1), .int (iI z2)]) (k := 2) (rest := [.int r1]) X hW (c_X11_happen l E A 227 H.size g1 210 q hz ta tb z1 z2 (by omega) m0 mq.2.2.1 mH hI1 hI2) (by omega) m0 rfl gL_law_X11_happen rfl rfl rfl (by decide +kernel) ⟨(Nat.le_of_ble_eq_true rfl), (Nat.le_of_ble_eq_true rfl)⟩ rfl hl.1 rfl (Nat.le_of_ble_eq_true rfl) dL_law_667 hcs) hW (fun r2 g2 H2 locs2 hp2 hW2 => ?_)
  obtain ⟨e2, s2, n2, hf2⟩ := hp2
  obtain rfl : r1 = r2 := e1.trans e2.symm
  refine lv_icmp_eq (tgt := 909) X.1 X.2.1 dL_law_670 (by decide) (fun c_ => ?_) (fun c_ => absurd rfl c_)
  rcases Int.lt_or_le (hpR hz z1 z2) 0 with hc | hc
  · obtain rfl := n1 hc
    obtain rfl := n2 hc
    exact kont _ H2 locs2 hW2 ⟨_, _, _, _, _, _, _, _, _, _, _, _, _, _, _, _, _, _, _, _, hC, hM, hP⟩
  · have hC1 : LC E A g1 0 rw rl nm bk L cz co br py (hz + 1) (va_up ta hz z1.toNat) (va_up tb hz z2.toNat) xz bx px P Q od tz bz := ⟨(hf1 0 (by omega)).trans c0, cR.frame (hf1 _ (by omega)) (fun j h1 h2 => hf1 j (by omega)), cB.frame (hf1 _ (by omega)) (fun j h1 h2 => hf1 j (by omega)), cT.frame (fun j h1 h2 => hf1 j (by omega)), cC.frame (fun j h1 h2 => hf1 j (by omega)), cP.frame (fun j h1 h2 => hf1 j (by omega)), cK.frame (fun j h1 h2 => hf1 j (by omega)), s1 hc, cX.frame (fun j h1 h2 => hf1 j (by omega))⟩
    have hC2 := LC_fr (g' := g2) hC1 (fun j h => hf2 j (by omega))
    have hM2 : LM E A g2 210 rw rl nm bk L cz co br py (hz + 1) (va_up ta hz z1.toNat) (va_up tb hz z2.toNat) xz bx px P Q od tz bz := ⟨(va_up q 2 ((hz : Int) + 1)), (s2 hc).1, ⟨by rw [va_up_ne (k := 2) (j := 0) _ _ (by decide)]; exact mq.1, by rw [va_up_ne (k := 2) (j := 1) _ _ (by decide)]; exact mq.2.1, by rw [va_up_self]; omega, by rw [va_up_ne (k := 2) (j := 3) _ _ (by decide)]; exact mq.2.2.2⟩, MR_frame mN (hf2 _ (by omega)), mR.frame (hf2 _ (by omega)) (hf2 _ (by omega)) (hf2 _ (by omega)), mB.frame (fun j h1 h2 => hf2 j (by omega)), mC.frame (hf2 _ (by omega)) (hf2 _ (by omega)), mP.frame (hf2 _ (by omega)), (s2 hc).2, mX.frame (hf2 _ (by omega)) (hf2 _ (by omega)), ⟨f16, (hf2 _ (by omega)).trans m16⟩⟩
    exact kont g2 H2 locs2 hW2 ⟨_, _, _, _, _, _, _, _, _, _, _, _, _, _, _, _, _, _, _, _, hC2, hM2, hP⟩
set_option maxHeartbeats 4000000 in
set_option maxRecDepth 100000 in
theorem op_dismiss {p : Program} {l : Launch} {e : Env} {s : State} {m : MethodId} {args : Array Value} {below : List Frame} {meth : Method} {c : Code} {H : Heap} {locs : List Loc} {cells slots : Nat} {QQ : State → Prop} {E : wE} {A : Nat → Nat} {g : Nat → va_E} {ls : Array Slot} {b LL i : Nat} {xs : Nat → Int32} (X : CallFix p m c cL_law 4 s args wsL_law RL) (hcs : cells ≤ room_1.cells ∧ slots ≤ room_1.slots) (hS : SX (fun q => s.heap.size ≤ q) s b LL xs) (hW : wH E (fun q => s.heap.size ≤ q) A 227 s g H locs) (hI : LI E A g) (hi : i + 5 ≤ LL) (hl : lv_has ls 4 [(3, .int (iI (i : Int))), (2, .ref (A 210)), (1, .ref (A 0)), (0, .ref b)])
    (kont : ∀ (g' : Nat → va_E) (H' : Heap) (locs' : List Loc), wH E (fun q => s.heap.size ≤ q) A 227 s g' H' locs' → LI E A g' → W p l e room_1 s m args below meth c H' locs' cells slots QQ (F0 m 909 ls [])) : W p l e room_1 s m args below meth c H locs cells slots QQ (F0 m 349 ls []) := by
  have hb4 := hS.2.2.2
  obtain ⟨rw, rl, nm, bk, L, cz, co, br, py, hz, ta, tb, xz, bx, px, P, Q, od, tz, bz, hC, hM, hP⟩ := hI
  obtain ⟨c0, cR, cB, cT, cC, cP, cK, cH, cX⟩ := id hC
  refine lv_aload_n X.1 X.2.1 dL_law_349 rfl (lv_at hl 2 rfl) ?_
  refine x_ci (x_runV (As := []) (k := 0) (rest := []) X hW (c_X10_dismiss l E A 227 H.size g 0 bk cz co br (by omega) c0 cC) (by omega) c0 rfl gL_law_X10_dismiss rfl rfl rfl (by decide +kernel) ⟨(Nat.le_of_ble_eq_true rfl), (Nat.le_of_ble_eq_true rfl)⟩ rfl hl.1 rfl (Nat.le_of_ble_eq_true rfl) dL_law_350 hcs) hW (fun r1 g1 H locs hp1 hW => ?_)
  obtain ⟨e1, s1, hf1⟩ := hp1
  have hM1 := LM_fr (g' := g1) hM (fun j h => hf1 j (by omega))
  obtain ⟨q, m0, mq, mN, mR, mB, mC, mP, mH, mX, f16, m16⟩ := hM1
  refine lv_aload_n X.1 X.2.1 dL_law_353 rfl (lv_at hl 1 rfl) ?_
  refine x_ci (x_runV (As := []) (k := 0) (rest := [.int r1]) X hW (c_X11_dismiss l E A 227 H.size g1 210 q (by omega) m0) (by omega) m0 rfl gL_law_X11_dismiss rfl rfl rfl (by decide +kernel) ⟨(Nat.le_of_ble_eq_true rfl), (Nat.le_of_ble_eq_true rfl)⟩ rfl hl.1 rfl (Nat.le_of_ble_eq_true rfl) dL_law_354 hcs) hW (fun r2 g2 H2 locs2 hp2 hW2 => ?_)
  obtain ⟨e2, s2, hf2⟩ := hp2
  obtain rfl : r1 = r2 := e1.trans (by rw [e2, mq.2.1])
  refine lv_icmp_eq (tgt := 909) X.1 X.2.1 dL_law_357 (by decide) (fun c_ => ?_) (fun c_ => absurd rfl c_)
  have hC1 : LC E A g1 0 rw rl nm bk L 0 co br py hz ta tb xz bx px P Q od tz bz := ⟨(hf1 0 (by omega)).trans c0, cR.frame (hf1 _ (by omega)) (fun j h1 h2 => hf1 j (by omega)), cB.frame (hf1 _ (by omega)) (fun j h1 h2 => hf1 j (by omega)), cT.frame (fun j h1 h2 => hf1 j (by omega)), s1, cP.frame (fun j h1 h2 => hf1 j (by omega)), cK.frame (fun j h1 h2 => hf1 j (by omega)), cH.frame (fun j h1 h2 => hf1 j (by omega)), cX.frame (fun j h1 h2 => hf1 j (by omega))⟩
  have hC2 := LC_fr (g' := g2) hC1 (fun j h => hf2 j (by omega))
  have hM2 : LM E A g2 210 rw rl nm bk L 0 co br py hz ta tb xz bx px P Q od tz bz := ⟨(va_up q 1 0), s2, ⟨by rw [va_up_ne (k := 1) (j := 0) _ _ (by decide)]; exact mq.1, by rw [va_up_self]; rfl, by rw [va_up_ne (k := 1) (j := 2) _ _ (by decide)]; exact mq.2.2.1, by rw [va_up_ne (k := 1) (j := 3) _ _ (by decide)]; exact mq.2.2.2⟩, MR_frame mN (hf2 _ (by omega)), mR.frame (hf2 _ (by omega)) (hf2 _ (by omega)) (hf2 _ (by omega)), mB.frame (fun j h1 h2 => hf2 j (by omega)), (by obtain ⟨f9, f10, a1, a2, a3, a4⟩ := mC; exact ⟨f9, f10, (hf2 _ (by omega)).trans a1, (hf2 _ (by omega)).trans a2, by omega, fun k hk => absurd hk (by omega)⟩), mP.frame (hf2 _ (by omega)), mH.frame (hf2 _ (by omega)) (hf2 _ (by omega)), mX.frame (hf2 _ (by omega)) (hf2 _ (by omega)), ⟨f16, (hf2 _ (by omega)).trans m16⟩⟩
  exact kont g2 H2 locs2 hW2 ⟨_, _, _, _, _, _, _, _, _, _, _, _, _, _, _, _, _, _, _, _, hC2, hM2, hP⟩
set_option maxHeartbeats 4000000 in
set_option maxRecDepth 100000 in
theorem op_forget {p : Program} {l : Launch} {e : Env} {s : State} {m : MethodId} {args : Array Value} {below : List Frame} {meth : Method} {c : Code} {H : Heap} {locs : List Loc} {cells slots : Nat} {QQ : State → Prop} {E : wE} {A : Nat → Nat} {g : Nat → va_E} {ls : Array Slot} {b LL i : Nat} {xs : Nat → Int32} (X : CallFix p m c cL_law 4 s args wsL_law RL) (hcs : cells ≤ room_1.cells ∧ slots ≤ room_1.slots) (hS : SX (fun q => s.heap.size ≤ q) s b LL xs) (hW : wH E (fun q => s.heap.size ≤ q) A 227 s g H locs) (hI : LI E A g) (hi : i + 5 ≤ LL) (hl : lv_has ls 4 [(3, .int (iI (i : Int))), (2, .ref (A 210)), (1, .ref (A 0)), (0, .ref b)])
    (kont : ∀ (g' : Nat → va_E) (H' : Heap) (locs' : List Loc), wH E (fun q => s.heap.size ≤ q) A 227 s g' H' locs' → LI E A g' → W p l e room_1 s m args below meth c H' locs' cells slots QQ (F0 m 909 ls [])) : W p l e room_1 s m args below meth c H locs cells slots QQ (F0 m 675 ls []) := by
  have hb4 := hS.2.2.2
  obtain ⟨rw, rl, nm, bk, L, cz, co, br, py, hz, ta, tb, xz, bx, px, P, Q, od, tz, bz, hC, hM, hP⟩ := hI
  obtain ⟨c0, cR, cB, cT, cC, cP, cK, cH, cX⟩ := id hC
  refine lv_aload_n X.1 X.2.1 dL_law_675 rfl (lv_at hl 2 rfl) ?_
  refine x_ci (x_runV (As := []) (k := 0) (rest := []) X hW (c_X10_forget l E A 227 H.size g 0 bk hz ta tb (by omega) c0 cH) (by omega) c0 rfl gL_law_X10_forget rfl rfl rfl (by decide +kernel) ⟨(Nat.le_of_ble_eq_true rfl), (Nat.le_of_ble_eq_true rfl)⟩ rfl hl.1 rfl (Nat.le_of_ble_eq_true rfl) dL_law_676 hcs) hW (fun r1 g1 H locs hp1 hW => ?_)
  obtain ⟨e1, s1, hf1⟩ := hp1
  have hM1 := LM_fr (g' := g1) hM (fun j h => hf1 j (by omega))
  obtain ⟨q, m0, mq, mN, mR, mB, mC, mP, mH, mX, f16, m16⟩ := hM1
  refine lv_aload_n X.1 X.2.1 dL_law_679 rfl (lv_at hl 1 rfl) ?_
  refine x_ci (x_runV (As := []) (k := 0) (rest := [.int r1]) X hW (c_X11_forget l E A 227 H.size g1 210 q (by omega) m0) (by omega) m0 rfl gL_law_X11_forget rfl rfl rfl (by decide +kernel) ⟨(Nat.le_of_ble_eq_true rfl), (Nat.le_of_ble_eq_true rfl)⟩ rfl hl.1 rfl (Nat.le_of_ble_eq_true rfl) dL_law_680 hcs) hW (fun r2 g2 H2 locs2 hp2 hW2 => ?_)
  obtain ⟨e2, s2, hf2⟩ := hp2
  obtain rfl : r1 = r2 := e1.trans (by rw [e2, mq.2.2.1])
  refine lv_icmp_eq (tgt := 909) X.1 X.2.1 dL_law_683 (by decide) (fun c_ => ?_) (fun c_ => absurd rfl c_)
  have hC1 : LC E A g1 0 rw rl nm bk L cz co br py 0 ta tb xz bx px P Q od tz bz := ⟨(hf1 0 (by omega)).trans c0, cR.frame (hf1 _ (by omega)) (fun j h1 h2 => hf1 j (by omega)), cB.frame (hf1 _ (by omega)) (fun j h1 h2 => hf1 j (by omega)), cT.frame (fun j h1 h2 => hf1 j (by omega)), cC.frame (fun j h1 h2 => hf1 j (by omega)), cP.frame (fun j h1 h2 => hf1 j (by omega)), cK.frame (fun j h1 h2 => hf1 j (by omega)), s1, cX.frame (fun j h1 h2 => hf1 j (by omega))⟩
  have hC2 := LC_fr (g' := g2) hC1 (fun j h => hf2 j (by omega))
  have hM2 : LM E A g2 210 rw rl nm bk L cz co br py 0 ta tb xz bx px P Q od tz bz := ⟨(va_up q 2 0), s2, ⟨by rw [va_up_ne (k := 2) (j := 0) _ _ (by decide)]; exact mq.1, by rw [va_up_ne (k := 2) (j := 1) _ _ (by decide)]; exact mq.2.1, by rw [va_up_self]; rfl, by rw [va_up_ne (k := 2) (j := 3) _ _ (by decide)]; exact mq.2.2.2⟩, MR_frame mN (hf2 _ (by omega)), mR.frame (hf2 _ (by omega)) (hf2 _ (by omega)) (hf2 _ (by omega)), mB.frame (fun j h1 h2 => hf2 j (by omega)), mC.frame (hf2 _ (by omega)) (hf2 _ (by omega)), mP.frame (hf2 _ (by omega)), (by obtain ⟨fa, fb, a1, a2, a3, a4⟩ := mH; exact ⟨fa, fb, (hf2 _ (by omega)).trans a1, (hf2 _ (by omega)).trans a2, by omega, fun k hk => absurd hk (by omega)⟩), mX.frame (hf2 _ (by omega)) (hf2 _ (by omega)), ⟨f16, (hf2 _ (by omega)).trans m16⟩⟩
  exact kont g2 H2 locs2 hW2 ⟨_, _, _, _, _, _, _, _, _, _, _, _, _, _, _, _, _, _, _, _, hC2, hM2, hP⟩
set_option maxHeartbeats 4000000 in
set_option maxRecDepth 100000 in
theorem op_empty {p : Program} {l : Launch} {e : Env} {s : State} {m : MethodId} {args : Array Value} {below : List Frame} {meth : Method} {c : Code} {H : Heap} {locs : List Loc} {cells slots : Nat} {QQ : State → Prop} {E : wE} {A : Nat → Nat} {g : Nat → va_E} {ls : Array Slot} {b LL i : Nat} {xs : Nat → Int32} (X : CallFix p m c cL_law 4 s args wsL_law RL) (hcs : cells ≤ room_1.cells ∧ slots ≤ room_1.slots) (hS : SX (fun q => s.heap.size ≤ q) s b LL xs) (hW : wH E (fun q => s.heap.size ≤ q) A 227 s g H locs) (hI : LI E A g) (hi : i + 5 ≤ LL) (hl : lv_has ls 4 [(3, .int (iI (i : Int))), (2, .ref (A 210)), (1, .ref (A 0)), (0, .ref b)])
    (kont : ∀ (g' : Nat → va_E) (H' : Heap) (locs' : List Loc), wH E (fun q => s.heap.size ≤ q) A 227 s g' H' locs' → LI E A g' → W p l e room_1 s m args below meth c H' locs' cells slots QQ (F0 m 909 ls [])) : W p l e room_1 s m args below meth c H locs cells slots QQ (F0 m 734 ls []) := by
  have hb4 := hS.2.2.2
  obtain ⟨rw, rl, nm, bk, L, cz, co, br, py, hz, ta, tb, xz, bx, px, P, Q, od, tz, bz, hC, hM, hP⟩ := hI
  obtain ⟨c0, cR, cB, cT, cC, cP, cK, cH, cX⟩ := id hC
  refine lv_aload_n X.1 X.2.1 dL_law_734 rfl (lv_at hl 2 rfl) ?_
  refine x_ci (x_runV (As := []) (k := 0) (rest := []) X hW (c_X10_empty l E A 227 H.size g 0 bk xz bx px P Q od (by omega) c0 cX) (by omega) c0 rfl gL_law_X10_empty rfl rfl rfl (by decide +kernel) ⟨(Nat.le_of_ble_eq_true rfl), (Nat.le_of_ble_eq_true rfl)⟩ rfl hl.1 rfl (Nat.le_of_ble_eq_true rfl) dL_law_735 hcs) hW (fun r1 g1 H locs hp1 hW => ?_)
  obtain ⟨e1, s1, hf1⟩ := hp1
  have hM1 := LM_fr (g' := g1) hM (fun j h => hf1 j (by omega))
  obtain ⟨q, m0, mq, mN, mR, mB, mC, mP, mH, mX, f16, m16⟩ := hM1
  refine lv_aload_n X.1 X.2.1 dL_law_738 rfl (lv_at hl 1 rfl) ?_
  refine x_ci (x_runV (As := []) (k := 0) (rest := [.int r1]) X hW (c_X11_empty l E A 227 H.size g1 210 q (by omega) m0) (by omega) m0 rfl gL_law_X11_empty rfl rfl rfl (by decide +kernel) ⟨(Nat.le_of_ble_eq_true rfl), (Nat.le_of_ble_eq_true rfl)⟩ rfl hl.1 rfl (Nat.le_of_ble_eq_true rfl) dL_law_739 hcs) hW (fun r2 g2 H2 locs2 hp2 hW2 => ?_)
  obtain ⟨e2, s2, hf2⟩ := hp2
  obtain rfl : r1 = r2 := e1.trans (by rw [e2, mq.2.2.2])
  refine lv_icmp_eq (tgt := 909) X.1 X.2.1 dL_law_742 (by decide) (fun c_ => ?_) (fun c_ => absurd rfl c_)
  have hC1 : LC E A g1 0 rw rl nm bk L cz co br py hz ta tb 0 bx px P Q od tz bz := ⟨(hf1 0 (by omega)).trans c0, cR.frame (hf1 _ (by omega)) (fun j h1 h2 => hf1 j (by omega)), cB.frame (hf1 _ (by omega)) (fun j h1 h2 => hf1 j (by omega)), cT.frame (fun j h1 h2 => hf1 j (by omega)), cC.frame (fun j h1 h2 => hf1 j (by omega)), cP.frame (fun j h1 h2 => hf1 j (by omega)), cK.frame (fun j h1 h2 => hf1 j (by omega)), cH.frame (fun j h1 h2 => hf1 j (by omega)), s1⟩
  have hC2 := LC_fr (g' := g2) hC1 (fun j h => hf2 j (by omega))
  have hM2 : LM E A g2 210 rw rl nm bk L cz co br py hz ta tb 0 bx px P Q od tz bz := ⟨(va_up q 3 0), s2, ⟨by rw [va_up_ne (k := 3) (j := 0) _ _ (by decide)]; exact mq.1, by rw [va_up_ne (k := 3) (j := 1) _ _ (by decide)]; exact mq.2.1, by rw [va_up_ne (k := 3) (j := 2) _ _ (by decide)]; exact mq.2.2.1, by rw [va_up_self]; rfl⟩, MR_frame mN (hf2 _ (by omega)), mR.frame (hf2 _ (by omega)) (hf2 _ (by omega)) (hf2 _ (by omega)), mB.frame (fun j h1 h2 => hf2 j (by omega)), mC.frame (hf2 _ (by omega)) (hf2 _ (by omega)), mP.frame (hf2 _ (by omega)), mH.frame (hf2 _ (by omega)) (hf2 _ (by omega)), (by obtain ⟨fa, fb, a1, a2, a3, a4⟩ := mX; exact ⟨fa, fb, (hf2 _ (by omega)).trans a1, (hf2 _ (by omega)).trans a2, by omega, fun k hk => absurd hk (by omega)⟩), ⟨f16, (hf2 _ (by omega)).trans m16⟩⟩
  exact kont g2 H2 locs2 hW2 ⟨_, _, _, _, _, _, _, _, _, _, _, _, _, _, _, _, _, _, _, _, hC2, hM2, ⟨hP.1, fun k hk => absurd hk (by omega)⟩⟩
