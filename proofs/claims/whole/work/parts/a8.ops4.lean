set_option maxHeartbeats 4000000 in
set_option maxRecDepth 100000 in
theorem op_told {p : Program} {l : Launch} {e : Env} {s : State} {m : MethodId} {args : Array Value} {below : List Frame} {meth : Method} {c : Code} {H : Heap} {locs : List Loc} {cells slots : Nat} {QQ : State → Prop} {E : wE} {A : Nat → Nat} {g : Nat → va_E} {ls : Array Slot} {b LL i : Nat} {xs : Nat → Int32} (X : CallFix p m c cL_law 4 s args wsL_law RL) (hcs : cells ≤ room_1.cells ∧ slots ≤ room_1.slots) (hS : SX (fun q => s.heap.size ≤ q) s b LL xs) (hW : wH E (fun q => s.heap.size ≤ q) A 227 s g H locs) (hI : LI E A g) (hi : i + 5 ≤ LL) (hl : lv_has ls 4 [(3, .int (iI (i : Int))), (2, .ref (A 210)), (1, .ref (A 0)), (0, .ref b)])
    (kont : ∀ (g' : Nat → va_E) (H' : Heap) (locs' : List Loc), wH E (fun q => s.heap.size ≤ q) A 227 s g' H' locs' → LI E A g' → W p l e room_1 s m args below meth c H' locs' cells slots QQ (F0 m 909 ls [])) : W p l e room_1 s m args below meth c H locs cells slots QQ (F0 m 395 ls []) := by
  have hb4 := hS.2.2.2
  obtain ⟨rw, rl, nm, bk, L, cz, co, br, py, hz, ta, tb, xz, bx, px, P, Q, od, tz, bz, hC, hM, hP⟩ := hI
  obtain ⟨c0, cR, cB, cT, cC, cP, cK, cH, cX⟩ := id hC
  obtain ⟨⟨fb16, fbk⟩, ⟨fc10, fck⟩, ⟨fx6, fxk⟩, ⟨fh20, fhk⟩, fpy⟩ := LM_facts hM
  have hok : ∀ k, k < cz → bOK (LkM L co k) := fun k hk => (fbk (co k) (fck k hk).1).1
  have hcb : ∀ k, k < cz → co k < bk := fun k hk => (fck k hk).1
  have hbr : ∀ k, k < cz → br k ≤ 1001 := fun k hk => (fck k hk).2
  refine lv_aload_n X.1 X.2.1 dL_law_395 rfl (lv_at hl 2 rfl) ?_
  refine x_cv (x_runV (As := []) (k := 0) (rest := []) X hW (c_X10_told l E A 227 H.size g 0 bk L cz co br (by omega) c0 cB cC hcb hbr cT.any) (by omega) c0 rfl gL_law_X10_told rfl rfl rfl (by decide +kernel) ⟨(Nat.le_of_ble_eq_true rfl), (Nat.le_of_ble_eq_true rfl)⟩ rfl hl.1 rfl (Nat.le_of_ble_eq_true rfl) dL_law_396 hcs) hW (fun g1 H locs hp1 hW => ?_)
  obtain ⟨s1, t1, hf1⟩ := hp1
  have hM1 := LM_fr (g' := g1) hM (fun j h => hf1 j (by omega))
  obtain ⟨q, m0, mq, mN, mR, mB, mC, mP, mH, mX, f16, m16⟩ := hM1
  obtain ⟨N, hN, hN0, hN1⟩ := id mN
  refine lv_aload_n X.1 X.2.1 dL_law_399 rfl (lv_at hl 1 rfl) ?_
  refine x_cv (x_runV (As := []) (k := 0) (rest := []) X hW (c_X11_told l E A 227 H.size g1 210 q N bk L cz co br (by omega) m0 hN mB mq.2.1 mC) (by omega) m0 rfl gL_law_X11_told rfl rfl rfl (by decide +kernel) ⟨(Nat.le_of_ble_eq_true rfl), (Nat.le_of_ble_eq_true rfl)⟩ rfl hl.1 rfl (Nat.le_of_ble_eq_true rfl) dL_law_400 hcs) hW (fun g2 H2 locs2 hp2 hW2 => ?_)
  obtain ⟨s2, hf2⟩ := hp2
  refine lv_goto (tgt := 909) X.1 X.2.1 dL_law_403 (by decide) ?_
  rw [foA_pr] at s2
  have hC1 : LC E A g1 0 rw rl nm bk L cz co br py hz ta tb xz bx px P Q od (rdT ((foM (LkM L co) br cz cz : Nat) : Int) (prT (LkM L co) cz)) (rdB ((foM (LkM L co) br cz cz : Nat) : Int) (prT (LkM L co) cz)) := ⟨(hf1 0 (by omega)).trans c0, cR.frame (hf1 _ (by omega)) (fun j h1 h2 => hf1 j (by omega)), cB.frame (hf1 _ (by omega)) (fun j h1 h2 => hf1 j (by omega)), s1, t1, cP.frame (fun j h1 h2 => hf1 j (by omega)), cK.frame (fun j h1 h2 => hf1 j (by omega)), cH.frame (fun j h1 h2 => hf1 j (by omega)), cX.frame (fun j h1 h2 => hf1 j (by omega))⟩
  have hC2 := LC_fr (g' := g2) hC1 (fun j h => hf2 j (by omega))
  have hM2 : LM E A g2 210 rw rl nm bk L cz co br py hz ta tb xz bx px P Q od (rdT ((foM (LkM L co) br cz cz : Nat) : Int) (prT (LkM L co) cz)) (rdB ((foM (LkM L co) br cz cz : Nat) : Int) (prT (LkM L co) cz)) := ⟨q, (hf2 210 (by omega)).trans m0, mq, s2, mR.frame (hf2 _ (by omega)) (hf2 _ (by omega)) (hf2 _ (by omega)), mB.frame (fun j h1 h2 => hf2 j (by omega)), mC.frame (hf2 _ (by omega)) (hf2 _ (by omega)), mP.frame (hf2 _ (by omega)), mH.frame (hf2 _ (by omega)) (hf2 _ (by omega)), mX.frame (hf2 _ (by omega)) (hf2 _ (by omega)), ⟨f16, (hf2 _ (by omega)).trans m16⟩⟩
  exact kont g2 H2 locs2 hW2 ⟨_, _, _, _, _, _, _, _, _, _, _, _, _, _, _, _, _, _, _, _, hC2, hM2, ⟨rd44 (by rw [Int.natAbs_natCast]; exact foM44 fc10 hok) (p8044 (prT44 fc10 hok)), hP.2⟩⟩
set_option maxHeartbeats 4000000 in
set_option maxRecDepth 100000 in
theorem op_best {p : Program} {l : Launch} {e : Env} {s : State} {m : MethodId} {args : Array Value} {below : List Frame} {meth : Method} {c : Code} {H : Heap} {locs : List Loc} {cells slots : Nat} {QQ : State → Prop} {E : wE} {A : Nat → Nat} {g : Nat → va_E} {ls : Array Slot} {b LL i : Nat} {xs : Nat → Int32} (X : CallFix p m c cL_law 4 s args wsL_law RL) (hcs : cells ≤ room_1.cells ∧ slots ≤ room_1.slots) (hS : SX (fun q => s.heap.size ≤ q) s b LL xs) (hW : wH E (fun q => s.heap.size ≤ q) A 227 s g H locs) (hI : LI E A g) (hi : i + 5 ≤ LL) (hl : lv_has ls 4 [(3, .int (iI (i : Int))), (2, .ref (A 210)), (1, .ref (A 0)), (0, .ref b)])
    (kont : ∀ (g' : Nat → va_E) (H' : Heap) (locs' : List Loc), wH E (fun q => s.heap.size ≤ q) A 227 s g' H' locs' → LI E A g' → W p l e room_1 s m args below meth c H' locs' cells slots QQ (F0 m 909 ls [])) : W p l e room_1 s m args below meth c H locs cells slots QQ (F0 m 406 ls []) := by
  have hb4 := hS.2.2.2
  obtain ⟨rw, rl, nm, bk, L, cz, co, br, py, hz, ta, tb, xz, bx, px, P, Q, od, tz, bz, hC, hM, hP⟩ := hI
  obtain ⟨c0, cR, cB, cT, cC, cP, cK, cH, cX⟩ := id hC
  obtain ⟨⟨fb16, fbk⟩, ⟨fc10, fck⟩, ⟨fx6, fxk⟩, ⟨fh20, fhk⟩, fpy⟩ := LM_facts hM
  have hok : ∀ k, k < cz → bOK (LkM L co k) := fun k hk => (fbk (co k) (fck k hk).1).1
  have hcb : ∀ k, k < cz → co k < bk := fun k hk => (fck k hk).1
  refine lv_aload_n X.1 X.2.1 dL_law_406 rfl (lv_at hl 2 rfl) ?_
  refine x_cv (x_runV (As := []) (k := 0) (rest := []) X hW (c_X10_best l E A 227 H.size g 0 bk L cz co br (by omega) c0 cB cC hcb cT.any) (by omega) c0 rfl gL_law_X10_best rfl rfl rfl (by decide +kernel) ⟨(Nat.le_of_ble_eq_true rfl), (Nat.le_of_ble_eq_true rfl)⟩ rfl hl.1 rfl (Nat.le_of_ble_eq_true rfl) dL_law_407 hcs) hW (fun g1 H locs hp1 hW => ?_)
  obtain ⟨s1, t1, hf1⟩ := hp1
  have hM1 := LM_fr (g' := g1) hM (fun j h => hf1 j (by omega))
  obtain ⟨q, m0, mq, mN, mR, mB, mC, mP, mH, mX, f16, m16⟩ := hM1
  obtain ⟨N, hN, hN0, hN1⟩ := id mN
  refine lv_aload_n X.1 X.2.1 dL_law_410 rfl (lv_at hl 1 rfl) ?_
  refine x_cv (x_runV (As := []) (k := 0) (rest := []) X hW (c_X11_best l E A 227 H.size g1 210 q N bk L cz co br (by omega) m0 hN mB mq.2.1 mC) (by omega) m0 rfl gL_law_X11_best rfl rfl rfl (by decide +kernel) ⟨(Nat.le_of_ble_eq_true rfl), (Nat.le_of_ble_eq_true rfl)⟩ rfl hl.1 rfl (Nat.le_of_ble_eq_true rfl) dL_law_411 hcs) hW (fun g2 H2 locs2 hp2 hW2 => ?_)
  obtain ⟨s2, hf2⟩ := hp2
  refine lv_goto (tgt := 909) X.1 X.2.1 dL_law_414 (by decide) ?_
  rw [foA_pr] at s2
  have hC1 : LC E A g1 0 rw rl nm bk L cz co br py hz ta tb xz bx px P Q od (rdT ((chN (LkM L co) cz 1 cz 1 : Nat) : Int) (prT (LkM L co) cz)) (rdB ((chN (LkM L co) cz 1 cz 1 : Nat) : Int) (prT (LkM L co) cz)) := ⟨(hf1 0 (by omega)).trans c0, cR.frame (hf1 _ (by omega)) (fun j h1 h2 => hf1 j (by omega)), cB.frame (hf1 _ (by omega)) (fun j h1 h2 => hf1 j (by omega)), s1, t1, cP.frame (fun j h1 h2 => hf1 j (by omega)), cK.frame (fun j h1 h2 => hf1 j (by omega)), cH.frame (fun j h1 h2 => hf1 j (by omega)), cX.frame (fun j h1 h2 => hf1 j (by omega))⟩
  have hC2 := LC_fr (g' := g2) hC1 (fun j h => hf2 j (by omega))
  have hM2 : LM E A g2 210 rw rl nm bk L cz co br py hz ta tb xz bx px P Q od (rdT ((chN (LkM L co) cz 1 cz 1 : Nat) : Int) (prT (LkM L co) cz)) (rdB ((chN (LkM L co) cz 1 cz 1 : Nat) : Int) (prT (LkM L co) cz)) := ⟨q, (hf2 210 (by omega)).trans m0, mq, s2, mR.frame (hf2 _ (by omega)) (hf2 _ (by omega)) (hf2 _ (by omega)), mB.frame (fun j h1 h2 => hf2 j (by omega)), mC.frame (hf2 _ (by omega)) (hf2 _ (by omega)), mP.frame (hf2 _ (by omega)), mH.frame (hf2 _ (by omega)) (hf2 _ (by omega)), mX.frame (hf2 _ (by omega)) (hf2 _ (by omega)), ⟨f16, (hf2 _ (by omega)).trans m16⟩⟩
  exact kont g2 H2 locs2 hW2 ⟨_, _, _, _, _, _, _, _, _, _, _, _, _, _, _, _, _, _, _, _, hC2, hM2, ⟨rd44 (by rw [Int.natAbs_natCast]; exact chN44 fc10 hok) (p8044 (prT44 fc10 hok)), hP.2⟩⟩
set_option maxHeartbeats 4000000 in
set_option maxRecDepth 100000 in
theorem op_foresight {p : Program} {l : Launch} {e : Env} {s : State} {m : MethodId} {args : Array Value} {below : List Frame} {meth : Method} {c : Code} {H : Heap} {locs : List Loc} {cells slots : Nat} {QQ : State → Prop} {E : wE} {A : Nat → Nat} {g : Nat → va_E} {ls : Array Slot} {b LL i : Nat} {xs : Nat → Int32} (X : CallFix p m c cL_law 4 s args wsL_law RL) (hcs : cells ≤ room_1.cells ∧ slots ≤ room_1.slots) (hS : SX (fun q => s.heap.size ≤ q) s b LL xs) (hW : wH E (fun q => s.heap.size ≤ q) A 227 s g H locs) (hI : LI E A g) (hi : i + 5 ≤ LL) (hl : lv_has ls 4 [(3, .int (iI (i : Int))), (2, .ref (A 210)), (1, .ref (A 0)), (0, .ref b)])
    (kont : ∀ (g' : Nat → va_E) (H' : Heap) (locs' : List Loc), wH E (fun q => s.heap.size ≤ q) A 227 s g' H' locs' → LI E A g' → W p l e room_1 s m args below meth c H' locs' cells slots QQ (F0 m 909 ls [])) : W p l e room_1 s m args below meth c H locs cells slots QQ (F0 m 463 ls []) := by
  have hb4 := hS.2.2.2
  obtain ⟨rw, rl, nm, bk, L, cz, co, br, py, hz, ta, tb, xz, bx, px, P, Q, od, tz, bz, hC, hM, hP⟩ := hI
  obtain ⟨c0, cR, cB, cT, cC, cP, cK, cH, cX⟩ := id hC
  obtain ⟨⟨fb16, fbk⟩, ⟨fc10, fck⟩, ⟨fx6, fxk⟩, ⟨fh20, fhk⟩, fpy⟩ := LM_facts hM
  have hok : ∀ k, k < cz → bOK (LkM L co k) := fun k hk => (fbk (co k) (fck k hk).1).1
  have hcb : ∀ k, k < cz → co k < bk := fun k hk => (fck k hk).1
  refine lv_aload_n X.1 X.2.1 dL_law_463 rfl (lv_at hl 2 rfl) ?_
  refine x_cv (x_runV (As := []) (k := 0) (rest := []) X hW (c_X10_foresight l E A 227 H.size g 0 bk L cz co br (by omega) c0 cB cC hcb cT.any) (by omega) c0 rfl gL_law_X10_foresight rfl rfl rfl (by decide +kernel) ⟨(Nat.le_of_ble_eq_true rfl), (Nat.le_of_ble_eq_true rfl)⟩ rfl hl.1 rfl (Nat.le_of_ble_eq_true rfl) dL_law_464 hcs) hW (fun g1 H locs hp1 hW => ?_)
  obtain ⟨s1, t1, hf1⟩ := hp1
  have hM1 := LM_fr (g' := g1) hM (fun j h => hf1 j (by omega))
  obtain ⟨q, m0, mq, mN, mR, mB, mC, mP, mH, mX, f16, m16⟩ := hM1
  obtain ⟨N, hN, hN0, hN1⟩ := id mN
  refine lv_aload_n X.1 X.2.1 dL_law_467 rfl (lv_at hl 1 rfl) ?_
  refine x_cv (x_runV (As := []) (k := 0) (rest := []) X hW (c_X11_foresight l E A 227 H.size g1 210 q N bk L cz co br (by omega) m0 hN mB mq.2.1 mC) (by omega) m0 rfl gL_law_X11_foresight rfl rfl rfl (by decide +kernel) ⟨(Nat.le_of_ble_eq_true rfl), (Nat.le_of_ble_eq_true rfl)⟩ rfl hl.1 rfl (Nat.le_of_ble_eq_true rfl) dL_law_468 hcs) hW (fun g2 H2 locs2 hp2 hW2 => ?_)
  obtain ⟨s2, hf2⟩ := hp2
  refine lv_goto (tgt := 909) X.1 X.2.1 dL_law_471 (by decide) ?_
  have hC1 : LC E A g1 0 rw rl nm bk L cz co br py hz ta tb xz bx px P Q od (rdT ((foS (LkM L co) cz 1000 : Nat) : Int) (prT (LkM L co) cz)) (rdB ((foS (LkM L co) cz 1000 : Nat) : Int) (prT (LkM L co) cz)) := ⟨(hf1 0 (by omega)).trans c0, cR.frame (hf1 _ (by omega)) (fun j h1 h2 => hf1 j (by omega)), cB.frame (hf1 _ (by omega)) (fun j h1 h2 => hf1 j (by omega)), s1, t1, cP.frame (fun j h1 h2 => hf1 j (by omega)), cK.frame (fun j h1 h2 => hf1 j (by omega)), cH.frame (fun j h1 h2 => hf1 j (by omega)), cX.frame (fun j h1 h2 => hf1 j (by omega))⟩
  have hC2 := LC_fr (g' := g2) hC1 (fun j h => hf2 j (by omega))
  have hM2 : LM E A g2 210 rw rl nm bk L cz co br py hz ta tb xz bx px P Q od (rdT ((foS (LkM L co) cz 1000 : Nat) : Int) (prT (LkM L co) cz)) (rdB ((foS (LkM L co) cz 1000 : Nat) : Int) (prT (LkM L co) cz)) := ⟨q, (hf2 210 (by omega)).trans m0, mq, s2, mR.frame (hf2 _ (by omega)) (hf2 _ (by omega)) (hf2 _ (by omega)), mB.frame (fun j h1 h2 => hf2 j (by omega)), mC.frame (hf2 _ (by omega)) (hf2 _ (by omega)), mP.frame (hf2 _ (by omega)), mH.frame (hf2 _ (by omega)) (hf2 _ (by omega)), mX.frame (hf2 _ (by omega)) (hf2 _ (by omega)), ⟨f16, (hf2 _ (by omega)).trans m16⟩⟩
  exact kont g2 H2 locs2 hW2 ⟨_, _, _, _, _, _, _, _, _, _, _, _, _, _, _, _, _, _, _, _, hC2, hM2, ⟨rd44 (by rw [Int.natAbs_natCast]; exact foS44 fc10 hok) (p8044 (prT44 fc10 hok)), hP.2⟩⟩
set_option maxHeartbeats 4000000 in
set_option maxRecDepth 100000 in
theorem op_few {p : Program} {l : Launch} {e : Env} {s : State} {m : MethodId} {args : Array Value} {below : List Frame} {meth : Method} {c : Code} {H : Heap} {locs : List Loc} {cells slots : Nat} {QQ : State → Prop} {E : wE} {A : Nat → Nat} {g : Nat → va_E} {ls : Array Slot} {b LL i : Nat} {xs : Nat → Int32} (X : CallFix p m c cL_law 4 s args wsL_law RL) (hcs : cells ≤ room_1.cells ∧ slots ≤ room_1.slots) (hS : SX (fun q => s.heap.size ≤ q) s b LL xs) (hW : wH E (fun q => s.heap.size ≤ q) A 227 s g H locs) (hI : LI E A g) (hi : i + 5 ≤ LL) (hl : lv_has ls 4 [(3, .int (iI (i : Int))), (2, .ref (A 210)), (1, .ref (A 0)), (0, .ref b)])
    (kont : ∀ (g' : Nat → va_E) (H' : Heap) (locs' : List Loc), wH E (fun q => s.heap.size ≤ q) A 227 s g' H' locs' → LI E A g' → W p l e room_1 s m args below meth c H' locs' cells slots QQ (F0 m 909 ls [])) : W p l e room_1 s m args below meth c H locs cells slots QQ (F0 m 440 ls []) := by
  have hb4 := hS.2.2.2
  obtain ⟨z1, hz1, hI1⟩ := i32_of (xs (i + 1))
  obtain ⟨rw, rl, nm, bk, L, cz, co, br, py, hz, ta, tb, xz, bx, px, P, Q, od, tz, bz, hC, hM, hP⟩ := hI
  obtain ⟨c0, cR, cB, cT, cC, cP, cK, cH, cX⟩ := id hC
  obtain ⟨⟨fb16, fbk⟩, ⟨fc10, fck⟩, ⟨fx6, fxk⟩, ⟨fh20, fhk⟩, fpy⟩ := LM_facts hM
  have hok : ∀ k, k < cz → bOK (LkM L co k) := fun k hk => (fbk (co k) (fck k hk).1).1
  have hcb : ∀ k, k < cz → co k < bk := fun k hk => (fck k hk).1
  refine lv_aload_n X.1 X.2.1 dL_law_440 rfl (lv_at hl 2 rfl) ?_
  refine lv_aload_n X.1 X.2.1 dL_law_441 rfl (lv_at hl 3 rfl) ?_
  refine lv_iload_n X.1 X.2.1 dL_law_442 rfl (lv_at hl 0 rfl) ?_
  refine x_iconst X dL_law_443 ?_
  refine x_iadd X dL_law_444 ?_
  refine x_sld X hW hS (i + 1) (by omega) (by omega) hz1 dL_law_445 ?_
  refine x_ci (x_runV (As := [.int (iI z1)]) (k := 1) (rest := []) X hW (c_X10_few l E A 227 H.size g 0 bk L cz co br z1 (by omega) c0 cB cC hcb cT.any hI1) (by omega) c0 rfl gL_law_X10_few rfl rfl rfl (by decide +kernel) ⟨(Nat.le_of_ble_eq_true rfl), (Nat.le_of_ble_eq_true rfl)⟩ rfl hl.1 rfl (Nat.le_of_ble_eq_true rfl) dL_law_446 hcs) hW (fun r1 g1 H locs hp1 hW => ?_)
  obtain ⟨e1, s1, n1, hf1⟩ := hp1
  have hM1 := LM_fr (g' := g1) hM (fun j h => hf1 j (by omega))
  obtain ⟨q, m0, mq, mN, mR, mB, mC, mP, mH, mX, f16, m16⟩ := hM1
  obtain ⟨N, hN, hN0, hN1⟩ := id mN
  refine lv_aload_n X.1 X.2.1 dL_law_449 rfl (lv_at hl 1 rfl) ?_
  refine lv_aload_n X.1 X.2.1 dL_law_450 rfl (lv_at hl 3 rfl) ?_
  refine lv_iload_n X.1 X.2.1 dL_law_451 rfl (lv_at hl 0 rfl) ?_
  refine x_iconst X dL_law_452 ?_
  refine x_iadd X dL_law_453 ?_
  refine x_sld X hW hS (i + 1) (by omega) (by omega) hz1 dL_law_454 ?_
  refine x_ci (x_runV (As := [.int (iI z1)]) (k := 1) (rest := [.int r1]) X hW (c_X11_few l E A 227 H.size g1 210 q N bk L cz co br z1 (by omega) m0 hN mB mq.2.1 mC hI1) (by omega) m0 rfl gL_law_X11_few rfl rfl rfl (by decide +kernel) ⟨(Nat.le_of_ble_eq_true rfl), (Nat.le_of_ble_eq_true rfl)⟩ rfl hl.1 rfl (Nat.le_of_ble_eq_true rfl) dL_law_455 hcs) hW (fun r2 g2 H2 locs2 hp2 hW2 => ?_)
  obtain ⟨e2, s2, n2, hf2⟩ := hp2
  obtain rfl : r1 = r2 := e1.trans e2.symm
  refine lv_icmp_eq (tgt := 909) X.1 X.2.1 dL_law_458 (by decide) (fun c_ => ?_) (fun c_ => absurd rfl c_)
  by_cases hc : 0 ≤ z1 ∧ z1 ≤ 10
  · skip
    have s3 := s2 hc
    rw [foA_pr] at s3
    have hC1 : LC E A g1 0 rw rl nm bk L cz co br py hz ta tb xz bx px P Q od (rdT ((chN (LkM L co) cz z1.toNat cz z1.toNat : Nat) : Int) (prT (LkM L co) cz)) (rdB ((chN (LkM L co) cz z1.toNat cz z1.toNat : Nat) : Int) (prT (LkM L co) cz)) := ⟨(hf1 0 (by omega)).trans c0, cR.frame (hf1 _ (by omega)) (fun j h1 h2 => hf1 j (by omega)), cB.frame (hf1 _ (by omega)) (fun j h1 h2 => hf1 j (by omega)), (s1 hc).1, (s1 hc).2, cP.frame (fun j h1 h2 => hf1 j (by omega)), cK.frame (fun j h1 h2 => hf1 j (by omega)), cH.frame (fun j h1 h2 => hf1 j (by omega)), cX.frame (fun j h1 h2 => hf1 j (by omega))⟩
    have hC2 := LC_fr (g' := g2) hC1 (fun j h => hf2 j (by omega))
    have hM2 : LM E A g2 210 rw rl nm bk L cz co br py hz ta tb xz bx px P Q od (rdT ((chN (LkM L co) cz z1.toNat cz z1.toNat : Nat) : Int) (prT (LkM L co) cz)) (rdB ((chN (LkM L co) cz z1.toNat cz z1.toNat : Nat) : Int) (prT (LkM L co) cz)) := ⟨q, (hf2 210 (by omega)).trans m0, mq, s3, mR.frame (hf2 _ (by omega)) (hf2 _ (by omega)) (hf2 _ (by omega)), mB.frame (fun j h1 h2 => hf2 j (by omega)), mC.frame (hf2 _ (by omega)) (hf2 _ (by omega)), mP.frame (hf2 _ (by omega)), mH.frame (hf2 _ (by omega)) (hf2 _ (by omega)), mX.frame (hf2 _ (by omega)) (hf2 _ (by omega)), ⟨f16, (hf2 _ (by omega)).trans m16⟩⟩
    exact kont g2 H2 locs2 hW2 ⟨_, _, _, _, _, _, _, _, _, _, _, _, _, _, _, _, _, _, _, _, hC2, hM2, ⟨rd44 (by rw [Int.natAbs_natCast]; exact chN44 fc10 hok) (p8044 (prT44 fc10 hok)), hP.2⟩⟩
  · obtain rfl := n1 hc
    obtain rfl := n2 hc
    exact kont _ H2 locs2 hW2 ⟨_, _, _, _, _, _, _, _, _, _, _, _, _, _, _, _, _, _, _, _, hC, hM, hP⟩
set_option maxHeartbeats 4000000 in
set_option maxRecDepth 100000 in
theorem op_bar {p : Program} {l : Launch} {e : Env} {s : State} {m : MethodId} {args : Array Value} {below : List Frame} {meth : Method} {c : Code} {H : Heap} {locs : List Loc} {cells slots : Nat} {QQ : State → Prop} {E : wE} {A : Nat → Nat} {g : Nat → va_E} {ls : Array Slot} {b LL i : Nat} {xs : Nat → Int32} (X : CallFix p m c cL_law 4 s args wsL_law RL) (hcs : cells ≤ room_1.cells ∧ slots ≤ room_1.slots) (hS : SX (fun q => s.heap.size ≤ q) s b LL xs) (hW : wH E (fun q => s.heap.size ≤ q) A 227 s g H locs) (hI : LI E A g) (hi : i + 5 ≤ LL) (hl : lv_has ls 4 [(3, .int (iI (i : Int))), (2, .ref (A 210)), (1, .ref (A 0)), (0, .ref b)])
    (kont : ∀ (g' : Nat → va_E) (H' : Heap) (locs' : List Loc), wH E (fun q => s.heap.size ≤ q) A 227 s g' H' locs' → LI E A g' → W p l e room_1 s m args below meth c H' locs' cells slots QQ (F0 m 909 ls [])) : W p l e room_1 s m args below meth c H locs cells slots QQ (F0 m 417 ls []) := by
  have hb4 := hS.2.2.2
  obtain ⟨z1, hz1, hI1⟩ := i32_of (xs (i + 1))
  obtain ⟨rw, rl, nm, bk, L, cz, co, br, py, hz, ta, tb, xz, bx, px, P, Q, od, tz, bz, hC, hM, hP⟩ := hI
  obtain ⟨c0, cR, cB, cT, cC, cP, cK, cH, cX⟩ := id hC
  obtain ⟨⟨fb16, fbk⟩, ⟨fc10, fck⟩, ⟨fx6, fxk⟩, ⟨fh20, fhk⟩, fpy⟩ := LM_facts hM
  have hcb : ∀ k, k < cz → co k < bk := fun k hk => (fck k hk).1
  refine lv_aload_n X.1 X.2.1 dL_law_417 rfl (lv_at hl 2 rfl) ?_
  refine lv_aload_n X.1 X.2.1 dL_law_418 rfl (lv_at hl 3 rfl) ?_
  refine lv_iload_n X.1 X.2.1 dL_law_419 rfl (lv_at hl 0 rfl) ?_
  refine x_iconst X dL_law_420 ?_
  refine x_iadd X dL_law_421 ?_
  refine x_sld X hW hS (i + 1) (by omega) (by omega) hz1 dL_law_422 ?_
  refine x_ci (x_runV (As := [.int (iI z1)]) (k := 1) (rest := []) X hW (c_X10_bar l E A 227 H.size g 0 bk L cz co br z1 (by omega) c0 cB cC hcb hI1) (by omega) c0 rfl gL_law_X10_bar rfl rfl rfl (by decide +kernel) ⟨(Nat.le_of_ble_eq_true rfl), (Nat.le_of_ble_eq_true rfl)⟩ rfl hl.1 rfl (Nat.le_of_ble_eq_true rfl) dL_law_423 hcs) hW (fun r1 g1 H locs hp1 hW => ?_)
  obtain ⟨u1, v1, t1, hf1⟩ := hp1
  have hM1 := LM_fr (g' := g1) hM (fun j h => hf1 j (by omega))
  obtain ⟨q, m0, mq, mN, mR, mB, mC, mP, mH, mX, f16, m16⟩ := hM1
  obtain ⟨N, hN, hN0, hN1⟩ := id mN
  refine lv_aload_n X.1 X.2.1 dL_law_426 rfl (lv_at hl 1 rfl) ?_
  refine lv_aload_n X.1 X.2.1 dL_law_427 rfl (lv_at hl 3 rfl) ?_
  refine lv_iload_n X.1 X.2.1 dL_law_428 rfl (lv_at hl 0 rfl) ?_
  refine x_iconst X dL_law_429 ?_
  refine x_iadd X dL_law_430 ?_
  refine x_sld X hW hS (i + 1) (by omega) (by omega) hz1 dL_law_431 ?_
  refine x_ci (x_runV (As := [.int (iI z1)]) (k := 1) (rest := [.int r1]) X hW (c_X11_bar l E A 227 H.size g1 210 q N bk L cz co br z1 (by omega) m0 hN mB mq.2.1 mC hI1) (by omega) m0 rfl gL_law_X11_bar rfl rfl rfl (by decide +kernel) ⟨(Nat.le_of_ble_eq_true rfl), (Nat.le_of_ble_eq_true rfl)⟩ rfl hl.1 rfl (Nat.le_of_ble_eq_true rfl) dL_law_432 hcs) hW (fun r2 g2 H2 locs2 hp2 hW2 => ?_)
  obtain ⟨u2, v2, ⟨N', hN', hNx⟩, hf2⟩ := hp2
  obtain rfl : r1 = r2 := by
    by_cases hc : 0 ≤ z1 ∧ z1 < (cz : Int)
    · obtain ⟨b1, x1, y1⟩ := v1 hc
      obtain ⟨b2, x2, y2⟩ := v2 hc
      rw [x1, x2, LB_one y1 y2]
    · rw [(u1 hc).1, u2 hc]
  refine lv_icmp_eq (tgt := 909) X.1 X.2.1 dL_law_435 (by decide) (fun c_ => ?_) (fun c_ => absurd rfl c_)
  have hC1 : LC E A g1 0 rw rl nm bk L cz co br py hz ta tb xz bx px P Q od tz bz := ⟨(hf1 0 (by omega)).trans c0, cR.frame (hf1 _ (by omega)) (fun j h1 h2 => hf1 j (by omega)), cB.frame (hf1 _ (by omega)) (fun j h1 h2 => hf1 j (by omega)), cT.frame (fun j h1 h2 => hf1 j (by omega)), t1, cP.frame (fun j h1 h2 => hf1 j (by omega)), cK.frame (fun j h1 h2 => hf1 j (by omega)), cH.frame (fun j h1 h2 => hf1 j (by omega)), cX.frame (fun j h1 h2 => hf1 j (by omega))⟩
  have hC2 := LC_fr (g' := g2) hC1 (fun j h => hf2 j (by omega))
  have hM2 : LM E A g2 210 rw rl nm bk L cz co br py hz ta tb xz bx px P Q od tz bz := ⟨q, (hf2 210 (by omega)).trans m0, mq, ⟨N', hN', (hNx 0 (by decide)).trans hN0, (hNx 1 (by decide)).trans hN1⟩, mR.frame (hf2 _ (by omega)) (hf2 _ (by omega)) (hf2 _ (by omega)), mB.frame (fun j h1 h2 => hf2 j (by omega)), mC.frame (hf2 _ (by omega)) (hf2 _ (by omega)), mP.frame (hf2 _ (by omega)), mH.frame (hf2 _ (by omega)) (hf2 _ (by omega)), mX.frame (hf2 _ (by omega)) (hf2 _ (by omega)), ⟨f16, (hf2 _ (by omega)).trans m16⟩⟩
  exact kont g2 H2 locs2 hW2 ⟨_, _, _, _, _, _, _, _, _, _, _, _, _, _, _, _, _, _, _, _, hC2, hM2, hP⟩
set_option maxHeartbeats 4000000 in
set_option maxRecDepth 100000 in
theorem op_half {p : Program} {l : Launch} {e : Env} {s : State} {m : MethodId} {args : Array Value} {below : List Frame} {meth : Method} {c : Code} {H : Heap} {locs : List Loc} {cells slots : Nat} {QQ : State → Prop} {E : wE} {A : Nat → Nat} {g : Nat → va_E} {ls : Array Slot} {b LL i : Nat} {xs : Nat → Int32} (X : CallFix p m c cL_law 4 s args wsL_law RL) (hcs : cells ≤ room_1.cells ∧ slots ≤ room_1.slots) (hS : SX (fun q => s.heap.size ≤ q) s b LL xs) (hW : wH E (fun q => s.heap.size ≤ q) A 227 s g H locs) (hI : LI E A g) (hi : i + 5 ≤ LL) (hl : lv_has ls 4 [(3, .int (iI (i : Int))), (2, .ref (A 210)), (1, .ref (A 0)), (0, .ref b)])
    (kont : ∀ (g' : Nat → va_E) (H' : Heap) (locs' : List Loc), wH E (fun q => s.heap.size ≤ q) A 227 s g' H' locs' → LI E A g' → W p l e room_1 s m args below meth c H' locs' cells slots QQ (F0 m 909 ls [])) : W p l e room_1 s m args below meth c H locs cells slots QQ (F0 m 474 ls []) := by
  have hb4 := hS.2.2.2
  obtain ⟨rw, rl, nm, bk, L, cz, co, br, py, hz, ta, tb, xz, bx, px, P, Q, od, tz, bz, hC, hM, hP⟩ := hI
  obtain ⟨c0, cR, cB, cT, cC, cP, cK, cH, cX⟩ := id hC
  obtain ⟨⟨fb16, fbk⟩, ⟨fc10, fck⟩, ⟨fx6, fxk⟩, ⟨fh20, fhk⟩, fpy⟩ := LM_facts hM
  have hok : ∀ k, k < cz → bOK (LkM L co k) := fun k hk => (fbk (co k) (fck k hk).1).1
  have hcb : ∀ k, k < cz → co k < bk := fun k hk => (fck k hk).1
  refine lv_aload_n X.1 X.2.1 dL_law_474 rfl (lv_at hl 2 rfl) ?_
  refine x_ci (x_runV (As := []) (k := 0) (rest := []) X hW (c_X10_half l E A 227 H.size g 0 bk L cz co br (by omega) c0 cB cC hcb (prophet hok (fun k hk => (fbk (co k) (fck k hk).1).2))) (by omega) c0 rfl gL_law_X10_half rfl rfl rfl (by decide +kernel) ⟨(Nat.le_of_ble_eq_true rfl), (Nat.le_of_ble_eq_true rfl)⟩ rfl hl.1 rfl (Nat.le_of_ble_eq_true rfl) dL_law_475 hcs) hW (fun r1 g1 H locs hp1 hW => ?_)
  obtain ⟨⟨b1, k1, x1, y1, w1⟩, t1, hf1⟩ := hp1
  have hM1 := LM_fr (g' := g1) hM (fun j h => hf1 j (by omega))
  obtain ⟨q, m0, mq, mN, mR, mB, mC, mP, mH, mX, f16, m16⟩ := hM1
  obtain ⟨N, hN, hN0, hN1⟩ := id mN
  refine lv_aload_n X.1 X.2.1 dL_law_478 rfl (lv_at hl 1 rfl) ?_
  refine x_ci (x_runV (As := []) (k := 0) (rest := [.int r1]) X hW (c_X11_half l E A 227 H.size g1 210 q N bk L cz co br (by omega) m0 hN mB mq.2.1 mC) (by omega) m0 rfl gL_law_X11_half rfl rfl rfl (by decide +kernel) ⟨(Nat.le_of_ble_eq_true rfl), (Nat.le_of_ble_eq_true rfl)⟩ rfl hl.1 rfl (Nat.le_of_ble_eq_true rfl) dL_law_479 hcs) hW (fun r2 g2 H2 locs2 hp2 hW2 => ?_)
  obtain ⟨u2, ⟨N', hN', hNx⟩, hf2⟩ := hp2
  obtain rfl : r1 = r2 := HF_one k1 x1 y1 w1 u2
  refine lv_icmp_eq (tgt := 909) X.1 X.2.1 dL_law_482 (by decide) (fun c_ => ?_) (fun c_ => absurd rfl c_)
  have hC1 : LC E A g1 0 rw rl nm bk L cz co br py hz ta tb xz bx px P Q od tz bz := ⟨(hf1 0 (by omega)).trans c0, cR.frame (hf1 _ (by omega)) (fun j h1 h2 => hf1 j (by omega)), cB.frame (hf1 _ (by omega)) (fun j h1 h2 => hf1 j (by omega)), cT.frame (fun j h1 h2 => hf1 j (by omega)), t1, cP.frame (fun j h1 h2 => hf1 j (by omega)), cK.frame (fun j h1 h2 => hf1 j (by omega)), cH.frame (fun j h1 h2 => hf1 j (by omega)), cX.frame (fun j h1 h2 => hf1 j (by omega))⟩
  have hC2 := LC_fr (g' := g2) hC1 (fun j h => hf2 j (by omega))
  have hM2 : LM E A g2 210 rw rl nm bk L cz co br py hz ta tb xz bx px P Q od tz bz := ⟨q, (hf2 210 (by omega)).trans m0, mq, ⟨N', hN', (hNx 0 (by decide)).trans hN0, (hNx 1 (by decide)).trans hN1⟩, mR.frame (hf2 _ (by omega)) (hf2 _ (by omega)) (hf2 _ (by omega)), mB.frame (fun j h1 h2 => hf2 j (by omega)), mC.frame (hf2 _ (by omega)) (hf2 _ (by omega)), mP.frame (hf2 _ (by omega)), mH.frame (hf2 _ (by omega)) (hf2 _ (by omega)), mX.frame (hf2 _ (by omega)) (hf2 _ (by omega)), ⟨f16, (hf2 _ (by omega)).trans m16⟩⟩
  exact kont g2 H2 locs2 hW2 ⟨_, _, _, _, _, _, _, _, _, _, _, _, _, _, _, _, _, _, _, _, hC2, hM2, hP⟩
