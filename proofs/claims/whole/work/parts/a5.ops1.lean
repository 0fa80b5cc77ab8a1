set_option maxHeartbeats 4000000 in
set_option maxRecDepth 100000 in
theorem op_row {p : Program} {l : Launch} {e : Env} {s : State} {m : MethodId} {args : Array Value} {below : List Frame} {meth : Method} {c : Code} {H : Heap} {locs : List Loc} {cells slots : Nat} {QQ : State → Prop} {E : wE} {A : Nat → Nat} {g : Nat → va_E} {ls : Array Slot} {b LL i : Nat} {xs : Nat → Int32} (X : CallFix p m c cL_law 4 s args wsL_law RL) (hcs : cells ≤ room_1.cells ∧ slots ≤ room_1.slots) (hS : SX (fun q => s.heap.size ≤ q) s b LL xs) (hW : wH E (fun q => s.heap.size ≤ q) A 227 s g H locs) (hI : LI E A g) (hi : i + 5 ≤ LL) (hl : lv_has ls 4 [(3, .int (iI (i : Int))), (2, .ref (A 210)), (1, .ref (A 0)), (0, .ref b)])
    (kont : ∀ (g' : Nat → va_E) (H' : Heap) (locs' : List Loc), wH E (fun q => s.heap.size ≤ q) A 227 s g' H' locs' → LI E A g' → W p l e room_1 s m args below meth c H' locs' cells slots QQ (F0 m 909 ls [])) : W p l e room_1 s m args below meth c H locs cells slots QQ (F0 m 164 ls []) := by
  have hb4 := hS.2.2.2
  obtain ⟨z1, hz1, hI1⟩ := i32_of (xs (i + 1))
  obtain ⟨z2, hz2, hI2⟩ := i32_of (xs (i + 2))
  obtain ⟨z3, hz3, hI3⟩ := i32_of (xs (i + 3))
  obtain ⟨rw, rl, nm, bk, L, cz, co, br, py, hz, ta, tb, xz, bx, px, P, Q, od, tz, bz, hC, hM, hP⟩ := hI
  obtain ⟨c0, cR, cB, cT, cC, cP, cK, cH, cX⟩ := id hC
  refine lv_aload_n X.1 X.2.1 dL_law_164 rfl (lv_at hl 2 rfl) ?_
  refine lv_aload_n X.1 X.2.1 dL_law_165 rfl (lv_at hl 3 rfl) ?_
  refine lv_iload_n X.1 X.2.1 dL_law_166 rfl (lv_at hl 0 rfl) ?_
  refine x_iconst X dL_law_167 ?_
  refine x_iadd X dL_law_168 ?_
  refine x_sld X hW hS (i + 1) (by omega) (by omega) hz1 dL_law_169 ?_
  refine lv_aload_n X.1 X.2.1 dL_law_170 rfl (lv_at hl 3 rfl) ?_
  refine lv_iload_n X.1 X.2.1 dL_law_171 rfl (lv_at hl 0 rfl) ?_
  refine x_iconst X dL_law_172 ?_
  refine x_iadd X dL_law_173 ?_
  refine x_sld X hW hS (i + 2) (by omega) (by omega) hz2 dL_law_174 ?_
  refine lv_aload_n X.1 X.2.1 dL_law_175 rfl (lv_at hl 3 rfl) ?_
  refine lv_iload_n X.1 X.2.1 dL_law_176 rfl (lv_at hl 0 rfl) ?_
  refine x_iconst X dL_law_177 ?_
  refine x_iadd X dL_law_178 ?_
  refine x_sld X hW hS (i + 3) (by omega) (by omega) hz3 dL_law_179 ?_
  refine x_ci (x_runV (As := [.int (iI z1), .int (iI z2), .int (iI z3)]) (k := 3) (rest := []) X hW (c_X10_row l E A 227 H.size g 0 bk rw rl nm z1 z2 z3 (by omega) c0 cR hI1 hI2 hI3) (by omega) c0 rfl gL_law_X10_row rfl rfl rfl (by decide +kernel) ⟨(Nat.le_of_ble_eq_true rfl), (Nat.le_of_ble_eq_true rfl)⟩ rfl hl.1 rfl (Nat.le_of_ble_eq_true rfl) dL_law_180 hcs) hW (fun r1 g1 H locs hp1 hW => ?_)
  obtain ⟨e1, s1, n1, hf1⟩ := hp1
  have hM1 := LM_fr (g' := g1) hM (fun j h => hf1 j (by omega))
  obtain ⟨q, m0, mq, mN, mR, mB, mC, mP, mH, mX, f16, m16⟩ := hM1
  refine lv_aload_n X.1 X.2.1 dL_law_183 rfl (lv_at hl 1 rfl) ?_
  refine lv_aload_n X.1 X.2.1 dL_law_184 rfl (lv_at hl 3 rfl) ?_
  refine lv_iload_n X.1 X.2.1 dL_law_185 rfl (lv_at hl 0 rfl) ?_
  refine x_iconst X dL_law_186 ?_
  refine x_iadd X dL_law_187 ?_
  refine x_sld X hW hS (i + 1) (by omega) (by omega) hz1 dL_law_188 ?_
  refine lv_aload_n X.1 X.2.1 dL_law_189 rfl (lv_at hl 3 rfl) ?_
  refine lv_iload_n X.1 X.2.1 dL_law_190 rfl (lv_at hl 0 rfl) ?_
  refine x_iconst X dL_law_191 ?_
  refine x_iadd X dL_law_192 ?_
  refine x_sld X hW hS (i + 2) (by omega) (by omega) hz2 dL_law_193 ?_
  refine lv_aload_n X.1 X.2.1 dL_law_194 rfl (lv_at hl 3 rfl) ?_
  refine lv_iload_n X.1 X.2.1 dL_law_195 rfl (lv_at hl 0 rfl) ?_
  refine x_iconst X dL_law_196 ?_
  refine x_iadd X dL_law_197 ?_
  refine x_sld X hW hS (i + 3) (by omega) (by omega) hz3 dL_law_198 ?_
  refine x_ci (x_runV (As := [.int (iI z1), .int (iI z2), .int (iI z3)]) (k := 3) (rest := [.int r1]) X hW (c_X11_row l E A 227 H.size g1 210 q rw rl nm z1 z2 z3 (by omega) m0 mR hI1 hI2 hI3) (by omega) m0 rfl gL_law_X11_row rfl rfl rfl (by decide +kernel) ⟨(Nat.le_of_ble_eq_true rfl), (Nat.le_of_ble_eq_true rfl)⟩ rfl hl.1 rfl (Nat.le_of_ble_eq_true rfl) dL_law_199 hcs) hW (fun r2 g2 H2 locs2 hp2 hW2 => ?_)
  obtain ⟨e2, s2, n2, hf2⟩ := hp2
  obtain rfl : r1 = r2 := e1.trans e2.symm
  refine lv_icmp_eq (tgt := 909) X.1 X.2.1 dL_law_202 (by decide) (fun c_ => ?_) (fun c_ => absurd rfl c_)
  by_cases hc : rowR z1 z2 z3 = 0
  · have hC1 : LC E A g1 0 (va_up rw z1.toNat z2) (va_up rl z1.toNat z3) (va_up nm z1.toNat (fun _ => 0)) bk L cz co br py hz ta tb xz bx px P Q od tz bz := ⟨(hf1 0 (by omega)).trans c0, s1 hc, cB.frame (hf1 _ (by omega)) (fun j h1 h2 => hf1 j (by omega)), cT.frame (fun j h1 h2 => hf1 j (by omega)), cC.frame (fun j h1 h2 => hf1 j (by omega)), cP.frame (fun j h1 h2 => hf1 j (by omega)), cK.frame (fun j h1 h2 => hf1 j (by omega)), cH.frame (fun j h1 h2 => hf1 j (by omega)), cX.frame (fun j h1 h2 => hf1 j (by omega))⟩
    have hC2 := LC_fr (g' := g2) hC1 (fun j h => hf2 j (by omega))
    have hM2 : LM E A g2 210 (va_up rw z1.toNat z2) (va_up rl z1.toNat z3) (va_up nm z1.toNat (fun _ => 0)) bk L cz co br py hz ta tb xz bx px P Q od tz bz := ⟨q, (hf2 210 (by omega)).trans m0, mq, MR_frame mN (hf2 _ (by omega)), s2 hc, mB.frame (fun j h1 h2 => hf2 j (by omega)), mC.frame (hf2 _ (by omega)) (hf2 _ (by omega)), mP.frame (hf2 _ (by omega)), mH.frame (hf2 _ (by omega)) (hf2 _ (by omega)), mX.frame (hf2 _ (by omega)) (hf2 _ (by omega)), ⟨f16, (hf2 _ (by omega)).trans m16⟩⟩
    exact kont g2 H2 locs2 hW2 ⟨_, _, _, _, _, _, _, _, _, _, _, _, _, _, _, _, _, _, _, _, hC2, hM2, hP⟩
  · obtain rfl := n1 hc
    obtain rfl := n2 hc
    exact kont _ H2 locs2 hW2 ⟨_, _, _, _, _, _, _, _, _, _, _, _, _, _, _, _, _, _, _, _, hC, hM, hP⟩
set_option maxHeartbeats 4000000 in
set_option maxRecDepth 100000 in
theorem op_tear {p : Program} {l : Launch} {e : Env} {s : State} {m : MethodId} {args : Array Value} {below : List Frame} {meth : Method} {c : Code} {H : Heap} {locs : List Loc} {cells slots : Nat} {QQ : State → Prop} {E : wE} {A : Nat → Nat} {g : Nat → va_E} {ls : Array Slot} {b LL i : Nat} {xs : Nat → Int32} (X : CallFix p m c cL_law 4 s args wsL_law RL) (hcs : cells ≤ room_1.cells ∧ slots ≤ room_1.slots) (hS : SX (fun q => s.heap.size ≤ q) s b LL xs) (hW : wH E (fun q => s.heap.size ≤ q) A 227 s g H locs) (hI : LI E A g) (hi : i + 5 ≤ LL) (hl : lv_has ls 4 [(3, .int (iI (i : Int))), (2, .ref (A 210)), (1, .ref (A 0)), (0, .ref b)])
    (kont : ∀ (g' : Nat → va_E) (H' : Heap) (locs' : List Loc), wH E (fun q => s.heap.size ≤ q) A 227 s g' H' locs' → LI E A g' → W p l e room_1 s m args below meth c H' locs' cells slots QQ (F0 m 909 ls [])) : W p l e room_1 s m args below meth c H locs cells slots QQ (F0 m 207 ls []) := by
  have hb4 := hS.2.2.2
  obtain ⟨z1, hz1, hI1⟩ := i32_of (xs (i + 1))
  obtain ⟨rw, rl, nm, bk, L, cz, co, br, py, hz, ta, tb, xz, bx, px, P, Q, od, tz, bz, hC, hM, hP⟩ := hI
  obtain ⟨c0, cR, cB, cT, cC, cP, cK, cH, cX⟩ := id hC
  refine lv_aload_n X.1 X.2.1 dL_law_207 rfl (lv_at hl 2 rfl) ?_
  refine lv_aload_n X.1 X.2.1 dL_law_208 rfl (lv_at hl 3 rfl) ?_
  refine lv_iload_n X.1 X.2.1 dL_law_209 rfl (lv_at hl 0 rfl) ?_
  refine x_iconst X dL_law_210 ?_
  refine x_iadd X dL_law_211 ?_
  refine x_sld X hW hS (i + 1) (by omega) (by omega) hz1 dL_law_212 ?_
  refine x_ci (x_runV (As := [.int (iI z1)]) (k := 1) (rest := []) X hW (c_X10_tear l E A 227 H.size g 0 bk rw rl nm z1 (by omega) c0 cR hI1) (by omega) c0 rfl gL_law_X10_tear rfl rfl rfl (by decide +kernel) ⟨(Nat.le_of_ble_eq_true rfl), (Nat.le_of_ble_eq_true rfl)⟩ rfl hl.1 rfl (Nat.le_of_ble_eq_true rfl) dL_law_213 hcs) hW (fun r1 g1 H locs hp1 hW => ?_)
  obtain ⟨e1, s1, n1, hf1⟩ := hp1
  have hM1 := LM_fr (g' := g1) hM (fun j h => hf1 j (by omega))
  obtain ⟨q, m0, mq, mN, mR, mB, mC, mP, mH, mX, f16, m16⟩ := hM1
  refine lv_aload_n X.1 X.2.1 dL_law_216 rfl (lv_at hl 1 rfl) ?_
  refine lv_aload_n X.1 X.2.1 dL_law_217 rfl (lv_at hl 3 rfl) ?_
  refine lv_iload_n X.1 X.2.1 dL_law_218 rfl (lv_at hl 0 rfl) ?_
  refine x_iconst X dL_law_219 ?_
  refine x_iadd X dL_law_220 ?_
  refine x_sld X hW hS (i + 1) (by omega) (by omega) hz1 dL_law_221 ?_
  refine x_ci (x_runV (As := [.int (iI z1)]) (k := 1) (rest := [.int r1]) X hW (c_X11_tear l E A 227 H.size g1 210 q rw rl nm z1 (by omega) m0 mR hI1) (by omega) m0 rfl gL_law_X11_tear rfl rfl rfl (by decide +kernel) ⟨(Nat.le_of_ble_eq_true rfl), (Nat.le_of_ble_eq_true rfl)⟩ rfl hl.1 rfl (Nat.le_of_ble_eq_true rfl) dL_law_222 hcs) hW (fun r2 g2 H2 locs2 hp2 hW2 => ?_)
  obtain ⟨e2, s2, n2, hf2⟩ := hp2
  obtain rfl : r1 = r2 := e1.trans e2.symm
  refine lv_icmp_eq (tgt := 909) X.1 X.2.1 dL_law_225 (by decide) (fun c_ => ?_) (fun c_ => absurd rfl c_)
  by_cases hc : (0 ≤ z1 ∧ z1 ≤ 9) ∧ rl z1.toNat ≠ -1
  · have hC1 : LC E A g1 0 rw (va_up rl z1.toNat (-1)) nm bk L cz co br py hz ta tb xz bx px P Q od tz bz := ⟨(hf1 0 (by omega)).trans c0, s1 hc, cB.frame (hf1 _ (by omega)) (fun j h1 h2 => hf1 j (by omega)), cT.frame (fun j h1 h2 => hf1 j (by omega)), cC.frame (fun j h1 h2 => hf1 j (by omega)), cP.frame (fun j h1 h2 => hf1 j (by omega)), cK.frame (fun j h1 h2 => hf1 j (by omega)), cH.frame (fun j h1 h2 => hf1 j (by omega)), cX.frame (fun j h1 h2 => hf1 j (by omega))⟩
    have hC2 := LC_fr (g' := g2) hC1 (fun j h => hf2 j (by omega))
    have hM2 : LM E A g2 210 rw (va_up rl z1.toNat (-1)) nm bk L cz co br py hz ta tb xz bx px P Q od tz bz := ⟨q, (hf2 210 (by omega)).trans m0, mq, MR_frame mN (hf2 _ (by omega)), s2 hc, mB.frame (fun j h1 h2 => hf2 j (by omega)), mC.frame (hf2 _ (by omega)) (hf2 _ (by omega)), mP.frame (hf2 _ (by omega)), mH.frame (hf2 _ (by omega)) (hf2 _ (by omega)), mX.frame (hf2 _ (by omega)) (hf2 _ (by omega)), ⟨f16, (hf2 _ (by omega)).trans m16⟩⟩
    exact kont g2 H2 locs2 hW2 ⟨_, _, _, _, _, _, _, _, _, _, _, _, _, _, _, _, _, _, _, _, hC2, hM2, hP⟩
  · obtain rfl := n1 hc
    obtain rfl := n2 hc
    exact kont _ H2 locs2 hW2 ⟨_, _, _, _, _, _, _, _, _, _, _, _, _, _, _, _, _, _, _, _, hC, hM, hP⟩
set_option maxHeartbeats 4000000 in
set_option maxRecDepth 100000 in
theorem op_tell {p : Program} {l : Launch} {e : Env} {s : State} {m : MethodId} {args : Array Value} {below : List Frame} {meth : Method} {c : Code} {H : Heap} {locs : List Loc} {cells slots : Nat} {QQ : State → Prop} {E : wE} {A : Nat → Nat} {g : Nat → va_E} {ls : Array Slot} {b LL i : Nat} {xs : Nat → Int32} (X : CallFix p m c cL_law 4 s args wsL_law RL) (hcs : cells ≤ room_1.cells ∧ slots ≤ room_1.slots) (hS : SX (fun q => s.heap.size ≤ q) s b LL xs) (hW : wH E (fun q => s.heap.size ≤ q) A 227 s g H locs) (hI : LI E A g) (hi : i + 5 ≤ LL) (hl : lv_has ls 4 [(3, .int (iI (i : Int))), (2, .ref (A 210)), (1, .ref (A 0)), (0, .ref b)])
    (kont : ∀ (g' : Nat → va_E) (H' : Heap) (locs' : List Loc), wH E (fun q => s.heap.size ≤ q) A 227 s g' H' locs' → LI E A g' → W p l e room_1 s m args below meth c H' locs' cells slots QQ (F0 m 909 ls [])) : W p l e room_1 s m args below meth c H locs cells slots QQ (F0 m 362 ls []) := by
  have hb4 := hS.2.2.2
  obtain ⟨z1, hz1, hI1⟩ := i32_of (xs (i + 1))
  obtain ⟨z2, hz2, hI2⟩ := i32_of (xs (i + 2))
  obtain ⟨rw, rl, nm, bk, L, cz, co, br, py, hz, ta, tb, xz, bx, px, P, Q, od, tz, bz, hC, hM, hP⟩ := hI
  obtain ⟨c0, cR, cB, cT, cC, cP, cK, cH, cX⟩ := id hC
  refine lv_aload_n X.1 X.2.1 dL_law_362 rfl (lv_at hl 2 rfl) ?_
  refine lv_aload_n X.1 X.2.1 dL_law_363 rfl (lv_at hl 3 rfl) ?_
  refine lv_iload_n X.1 X.2.1 dL_law_364 rfl (lv_at hl 0 rfl) ?_
  refine x_iconst X dL_law_365 ?_
  refine x_iadd X dL_law_366 ?_
  refine x_sld X hW hS (i + 1) (by omega) (by omega) hz1 dL_law_367 ?_
  refine lv_aload_n X.1 X.2.1 dL_law_368 rfl (lv_at hl 3 rfl) ?_
  refine lv_iload_n X.1 X.2.1 dL_law_369 rfl (lv_at hl 0 rfl) ?_
  refine x_iconst X dL_law_370 ?_
  refine x_iadd X dL_law_371 ?_
  refine x_sld X hW hS (i + 2) (by omega) (by omega) hz2 dL_law_372 ?_
  refine x_ci (x_runV (As := [.int (iI z1), .int (iI z2)]) (k := 2) (rest := []) X hW (c_X10_tell l E A 227 H.size g 0 bk cz co br z1 z2 (by omega) c0 cC hI1 hI2) (by omega) c0 rfl gL_law_X10_tell rfl rfl rfl (by decide +kernel) ⟨(Nat.le_of_ble_eq_true rfl), (Nat.le_of_ble_eq_true rfl)⟩ rfl hl.1 rfl (Nat.le_of_ble_eq_true rfl) dL_law_373 hcs) hW (fun r1 g1 H locs hp1 hW => ?_)
  obtain ⟨e1, s1, n1, hf1⟩ := hp1
  have hM1 := LM_fr (g' := g1) hM (fun j h => hf1 j (by omega))
  obtain ⟨q, m0, mq, mN, mR, mB, mC, mP, mH, mX, f16, m16⟩ := hM1
  refine lv_aload_n X.1 X.2.1 dL_law_376 rfl (lv_at hl 1 rfl) ?_
  refine lv_aload_n X.1 X.2.1 dL_law_377 rfl (lv_at hl 3 rfl) ?_
  refine lv_iload_n X.1 X.2.1 dL_law_378 rfl (lv_at hl 0 rfl) ?_
  refine x_iconst X dL_law_379 ?_
  refine x_iadd X dL_law_380 ?_
  refine x_sld X hW hS (i + 1) (by omega) (by omega) hz1 dL_law_381 ?_
  refine lv_aload_n X.1 X.2.1 dL_law_382 rfl (lv_at hl 3 rfl) ?_
  refine lv_iload_n X.1 X.2.1 dL_law_383 rfl (lv_at hl 0 rfl) ?_
  refine x_iconst X dL_law_384 ?_
  refine x_iadd X dL_law_385 ?_
  refine x_sld X hW hS (i + 2) (by omega) (by omega) hz2 dL_law_386 ?_
  refine x_ci (x_runV (As := [.int (iI z1), .int (iI z2)]) (k := 2) (rest := [.int r1]) X hW (c_X11_tell l E A 227 H.size g1 210 q bk cz co br z1 z2 (by omega) m0 mq.2.1 mC hI1 hI2) (by omega) m0 rfl gL_law_X11_tell rfl rfl rfl (by decide +kernel) ⟨(Nat.le_of_ble_eq_true rfl), (Nat.le_of_ble_eq_true rfl)⟩ rfl hl.1 rfl (Nat.le_of_ble_eq_true rfl) dL_law_387 hcs) hW (fun r2 g2 H2 locs2 hp2 hW2 => ?_)
  obtain ⟨e2, s2, n2, hf2⟩ := hp2
  obtain rfl : r1 = r2 := e1.trans e2.symm
  refine lv_icmp_eq (tgt := 909) X.1 X.2.1 dL_law_390 (by decide) (fun c_ => ?_) (fun c_ => absurd rfl c_)
  by_cases hc : (0 ≤ z1 ∧ z1 < (cz : Int)) ∧ 0 ≤ z2 ∧ z2 ≤ 1001
  · have hC1 : LC E A g1 0 rw rl nm bk L cz co (va_up br z1.toNat z2.toNat) py hz ta tb xz bx px P Q od tz bz := ⟨(hf1 0 (by omega)).trans c0, cR.frame (hf1 _ (by omega)) (fun j h1 h2 => hf1 j (by omega)), cB.frame (hf1 _ (by omega)) (fun j h1 h2 => hf1 j (by omega)), cT.frame (fun j h1 h2 => hf1 j (by omega)), s1 hc, cP.frame (fun j h1 h2 => hf1 j (by omega)), cK.frame (fun j h1 h2 => hf1 j (by omega)), cH.frame (fun j h1 h2 => hf1 j (by omega)), cX.frame (fun j h1 h2 => hf1 j (by omega))⟩
    have hC2 := LC_fr (g' := g2) hC1 (fun j h => hf2 j (by omega))
    have hM2 : LM E A g2 210 rw rl nm bk L cz co (va_up br z1.toNat z2.toNat) py hz ta tb xz bx px P Q od tz bz := ⟨q, (hf2 210 (by omega)).trans m0, mq, MR_frame mN (hf2 _ (by omega)), mR.frame (hf2 _ (by omega)) (hf2 _ (by omega)) (hf2 _ (by omega)), mB.frame (fun j h1 h2 => hf2 j (by omega)), s2 hc, mP.frame (hf2 _ (by omega)), mH.frame (hf2 _ (by omega)) (hf2 _ (by omega)), mX.frame (hf2 _ (by omega)) (hf2 _ (by omega)), ⟨f16, (hf2 _ (by omega)).trans m16⟩⟩
    exact kont g2 H2 locs2 hW2 ⟨_, _, _, _, _, _, _, _, _, _, _, _, _, _, _, _, _, _, _, _, hC2, hM2, hP⟩
  · obtain rfl := n1 hc
    obtain rfl := n2 hc
    exact kont _ H2 locs2 hW2 ⟨_, _, _, _, _, _, _, _, _, _, _, _, _, _, _, _, _, _, _, _, hC, hM, hP⟩
set_option maxHeartbeats 4000000 in
set_option maxRecDepth 100000 in
theorem op_pay {p : Program} {l : Launch} {e : Env} {s : State} {m : MethodId} {args : Array Value} {below : List Frame} {meth : Method} {c : Code} {H : Heap} {locs : List Loc} {cells slots : Nat} {QQ : State → Prop} {E : wE} {A : Nat → Nat} {g : Nat → va_E} {ls : Array Slot} {b LL i : Nat} {xs : Nat → Int32} (X : CallFix p m c cL_law 4 s args wsL_law RL) (hcs : cells ≤ room_1.cells ∧ slots ≤ room_1.slots) (hS : SX (fun q => s.heap.size ≤ q) s b LL xs) (hW : wH E (fun q => s.heap.size ≤ q) A 227 s g H locs) (hI : LI E A g) (hi : i + 5 ≤ LL) (hl : lv_has ls 4 [(3, .int (iI (i : Int))), (2, .ref (A 210)), (1, .ref (A 0)), (0, .ref b)])
    (kont : ∀ (g' : Nat → va_E) (H' : Heap) (locs' : List Loc), wH E (fun q => s.heap.size ≤ q) A 227 s g' H' locs' → LI E A g' → W p l e room_1 s m args below meth c H' locs' cells slots QQ (F0 m 909 ls [])) : W p l e room_1 s m args below meth c H locs cells slots QQ (F0 m 543 ls []) := by
  have hb4 := hS.2.2.2
  obtain ⟨z1, hz1, hI1⟩ := i32_of (xs (i + 1))
  obtain ⟨z2, hz2, hI2⟩ := i32_of (xs (i + 2))
  obtain ⟨rw, rl, nm, bk, L, cz, co, br, py, hz, ta, tb, xz, bx, px, P, Q, od, tz, bz, hC, hM, hP⟩ := hI
  obtain ⟨c0, cR, cB, cT, cC, cP, cK, cH, cX⟩ := id hC
  refine lv_aload_n X.1 X.2.1 dL_law_543 rfl (lv_at hl 2 rfl) ?_
  refine lv_aload_n X.1 X.2.1 dL_law_544 rfl (lv_at hl 3 rfl) ?_
  refine lv_iload_n X.1 X.2.1 dL_law_545 rfl (lv_at hl 0 rfl) ?_
  refine x_iconst X dL_law_546 ?_
  refine x_iadd X dL_law_547 ?_
  refine x_sld X hW hS (i + 1) (by omega) (by omega) hz1 dL_law_548 ?_
  refine lv_aload_n X.1 X.2.1 dL_law_549 rfl (lv_at hl 3 rfl) ?_
  refine lv_iload_n X.1 X.2.1 dL_law_550 rfl (lv_at hl 0 rfl) ?_
  refine x_iconst X dL_law_551 ?_
  refine x_iadd X dL_law_552 ?_
  refine x_sld X hW hS (i + 2) (by omega) (by omega) hz2 dL_law_553 ?_
  refine x_ci (x_runV (As := [.int (iI z1), .int (iI z2)]) (k := 2) (rest := []) X hW (c_X10_pay l E A 227 H.size g 0 bk py z1 z2 (by omega) c0 cK hI1 hI2) (by omega) c0 rfl gL_law_X10_pay rfl rfl rfl (by decide +kernel) ⟨(Nat.le_of_ble_eq_true rfl), (Nat.le_of_ble_eq_true rfl)⟩ rfl hl.1 rfl (Nat.le_of_ble_eq_true rfl) dL_law_554 hcs) hW (fun r1 g1 H locs hp1 hW => ?_)
  obtain ⟨e1, s1, n1, hf1⟩ := hp1
  have hM1 := LM_fr (g' := g1) hM (fun j h => hf1 j (by omega))
  obtain ⟨q, m0, mq, mN, mR, mB, mC, mP, mH, mX, f16, m16⟩ := hM1
  refine lv_aload_n X.1 X.2.1 dL_law_557 rfl (lv_at hl 1 rfl) ?_
  refine lv_aload_n X.1 X.2.1 dL_law_558 rfl (lv_at hl 3 rfl) ?_
  refine lv_iload_n X.1 X.2.1 dL_law_559 rfl (lv_at hl 0 rfl) ?_
  refine x_iconst X dL_law_560 ?_
  refine x_iadd X dL_law_561 ?_
  refine x_sld X hW hS (i + 1) (by omega) (by omega) hz1 dL_law_562 ?_
  refine lv_aload_n X.1 X.2.1 dL_law_563 rfl (lv_at hl 3 rfl) ?_
  refine lv_iload_n X.1 X.2.1 dL_law_564 rfl (lv_at hl 0 rfl) ?_
  refine x_iconst X dL_law_565 ?_
  refine x_iadd X dL_law_566 ?_
  refine x_sld X hW hS (i + 2) (by omega) (by omega) hz2 dL_law_567 ?_
  refine x_ci (x_runV (As := [.int (iI z1), .int (iI z2)]) (k := 2) (rest := [.int r1]) X hW (c_X11_pay l E A 227 H.size g1 210 q py z1 z2 (by omega) m0 mP hI1 hI2) (by omega) m0 rfl gL_law_X11_pay rfl rfl rfl (by decide +kernel) ⟨(Nat.le_of_ble_eq_true rfl), (Nat.le_of_ble_eq_true rfl)⟩ rfl hl.1 rfl (Nat.le_of_ble_eq_true rfl) dL_law_568 hcs) hW (fun r2 g2 H2 locs2 hp2 hW2 => ?_)
  obtain ⟨e2, s2, n2, hf2⟩ := hp2
  obtain rfl : r1 = r2 := e1.trans e2.symm
  refine lv_icmp_eq (tgt := 909) X.1 X.2.1 dL_law_571 (by decide) (fun c_ => ?_) (fun c_ => absurd rfl c_)
  by_cases hc : (1 ≤ z1 ∧ z1 ≤ 20) ∧ 0 ≤ z2 ∧ z2 ≤ 1000
  · have hC1 : LC E A g1 0 rw rl nm bk L cz co br (va_up py z1.toNat z2.toNat) hz ta tb xz bx px P Q od tz bz := ⟨(hf1 0 (by omega)).trans c0, cR.frame (hf1 _ (by omega)) (fun j h1 h2 => hf1 j (by omega)), cB.frame (hf1 _ (by omega)) (fun j h1 h2 => hf1 j (by omega)), cT.frame (fun j h1 h2 => hf1 j (by omega)), cC.frame (fun j h1 h2 => hf1 j (by omega)), cP.frame (fun j h1 h2 => hf1 j (by omega)), s1 hc, cH.frame (fun j h1 h2 => hf1 j (by omega)), cX.frame (fun j h1 h2 => hf1 j (by omega))⟩
    have hC2 := LC_fr (g' := g2) hC1 (fun j h => hf2 j (by omega))
    have hM2 : LM E A g2 210 rw rl nm bk L cz co br (va_up py z1.toNat z2.toNat) hz ta tb xz bx px P Q od tz bz := ⟨q, (hf2 210 (by omega)).trans m0, mq, MR_frame mN (hf2 _ (by omega)), mR.frame (hf2 _ (by omega)) (hf2 _ (by omega)) (hf2 _ (by omega)), mB.frame (fun j h1 h2 => hf2 j (by omega)), mC.frame (hf2 _ (by omega)) (hf2 _ (by omega)), s2 hc, mH.frame (hf2 _ (by omega)) (hf2 _ (by omega)), mX.frame (hf2 _ (by omega)) (hf2 _ (by omega)), ⟨f16, (hf2 _ (by omega)).trans m16⟩⟩
    exact kont g2 H2 locs2 hW2 ⟨_, _, _, _, _, _, _, _, _, _, _, _, _, _, _, _, _, _, _, _, hC2, hM2, hP⟩
  · obtain rfl := n1 hc
    obtain rfl := n2 hc
    exact kont _ H2 locs2 hW2 ⟨_, _, _, _, _, _, _, _, _, _, _, _, _, _, _, _, _, _, _, _, hC, hM, hP⟩
