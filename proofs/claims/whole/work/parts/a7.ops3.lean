set_option maxHeartbeats 4000000 in
set_option maxRecDepth 100000 in
theorem op_write {p : Program} {l : Launch} {e : Env} {s : State} {m : MethodId} {args : Array Value} {below : List Frame} {meth : Method} {c : Code} {H : Heap} {locs : List Loc} {cells slots : Nat} {QQ : State → Prop} {E : wE} {A : Nat → Nat} {g : Nat → va_E} {ls : Array Slot} {b LL i : Nat} {xs : Nat → Int32} (X : CallFix p m c cL_law 4 s args wsL_law RL) (hcs : cells ≤ room_1.cells ∧ slots ≤ room_1.slots) (hS : SX (fun q => s.heap.size ≤ q) s b LL xs) (hW : wH E (fun q => s.heap.size ≤ q) A 227 s g H locs) (hI : LI E A g) (hi : i + 5 ≤ LL) (hl : lv_has ls 4 [(3, .int (iI (i : Int))), (2, .ref (A 210)), (1, .ref (A 0)), (0, .ref b)])
    (kont : ∀ (g' : Nat → va_E) (H' : Heap) (locs' : List Loc), wH E (fun q => s.heap.size ≤ q) A 227 s g' H' locs' → LI E A g' → W p l e room_1 s m args below meth c H' locs' cells slots QQ (F0 m 909 ls [])) : W p l e room_1 s m args below meth c H locs cells slots QQ (F0 m 230 ls []) := by
  have hb4 := hS.2.2.2
  obtain ⟨z1, hz1, hI1⟩ := i32_of (xs (i + 1))
  obtain ⟨z2, hz2, hI2⟩ := i32_of (xs (i + 2))
  obtain ⟨z3, hz3, hI3⟩ := i32_of (xs (i + 3))
  obtain ⟨z4, hz4, hI4⟩ := i32_of (xs (i + 4))
  obtain ⟨rw, rl, nm, bk, L, cz, co, br, py, hz, ta, tb, xz, bx, px, P, Q, od, tz, bz, hC, hM, hP⟩ := hI
  obtain ⟨c0, cR, cB, cT, cC, cP, cK, cH, cX⟩ := id hC
  obtain ⟨v9, hv9, hv8⟩ := i64_of ((lI z3 <<< ((iI 32).toInt64 &&& 63)) ||| (lI z4 &&& lI 4294967295))
  refine lv_aload_n X.1 X.2.1 dL_law_230 rfl (lv_at hl 2 rfl) ?_
  refine lv_aload_n X.1 X.2.1 dL_law_231 rfl (lv_at hl 3 rfl) ?_
  refine lv_iload_n X.1 X.2.1 dL_law_232 rfl (lv_at hl 0 rfl) ?_
  refine x_iconst X dL_law_233 ?_
  refine x_iadd X dL_law_234 ?_
  refine x_sld X hW hS (i + 1) (by omega) (by omega) hz1 dL_law_235 ?_
  refine lv_aload_n X.1 X.2.1 dL_law_236 rfl (lv_at hl 3 rfl) ?_
  refine lv_iload_n X.1 X.2.1 dL_law_237 rfl (lv_at hl 0 rfl) ?_
  refine x_iconst X dL_law_238 ?_
  refine x_iadd X dL_law_239 ?_
  refine x_sld X hW hS (i + 2) (by omega) (by omega) hz2 dL_law_240 ?_
  refine lv_aload_n X.1 X.2.1 dL_law_241 rfl (lv_at hl 3 rfl) ?_
  refine lv_iload_n X.1 X.2.1 dL_law_242 rfl (lv_at hl 0 rfl) ?_
  refine x_iconst X dL_law_243 ?_
  refine x_iadd X dL_law_244 ?_
  refine x_sld X hW hS (i + 3) (by omega) (by omega) hz3 dL_law_245 ?_
  refine x_i2l X hI3 dL_law_246 ?_
  refine x_bipush X (by decide) dL_law_247 ?_
  refine lv_lshl X.1 X.2.1 dL_law_249 rfl ?_
  refine lv_aload_n X.1 X.2.1 dL_law_250 rfl (lv_at hl 3 rfl) ?_
  refine lv_iload_n X.1 X.2.1 dL_law_251 rfl (lv_at hl 0 rfl) ?_
  refine x_iconst X dL_law_252 ?_
  refine x_iadd X dL_law_253 ?_
  refine x_sld X hW hS (i + 4) (by omega) (by omega) hz4 dL_law_254 ?_
  refine x_i2l X hI4 dL_law_255 ?_
  refine x_ldc2 X (4294967295) (by decide) (inr1L _ (by decide +kernel : Cond.constantLong RL 23 (4294967295) ∈ wsL_law_r1)) dL_law_256 ?_
  refine lv_land X.1 X.2.1 dL_law_259 ?_
  refine lv_lor X.1 X.2.1 dL_law_260 ?_
  rw [hv9]
  refine x_ci (x_runV (As := [.int (iI z1), .int (iI z2), .long (lI v9)]) (k := 3) (rest := []) X hW (c_X10_write l E A 227 H.size g 0 bk rw rl nm z1 z2 v9 (by omega) c0 cR hI1 hI2 hv8) (by omega) c0 rfl gL_law_X10_write rfl rfl rfl (by decide +kernel) ⟨(Nat.le_of_ble_eq_true rfl), (Nat.le_of_ble_eq_true rfl)⟩ rfl hl.1 rfl (Nat.le_of_ble_eq_true rfl) dL_law_261 hcs) hW (fun r1 g1 H locs hp1 hW => ?_)
  obtain ⟨e1, s1, n1, hf1⟩ := hp1
  have hM1 := LM_fr (g' := g1) hM (fun j h => hf1 j (by omega))
  obtain ⟨q, m0, mq, mN, mR, mB, mC, mP, mH, mX, f16, m16⟩ := hM1
  refine lv_aload_n X.1 X.2.1 dL_law_264 rfl (lv_at hl 1 rfl) ?_
  refine lv_aload_n X.1 X.2.1 dL_law_265 rfl (lv_at hl 3 rfl) ?_
  refine lv_iload_n X.1 X.2.1 dL_law_266 rfl (lv_at hl 0 rfl) ?_
  refine x_iconst X dL_law_267 ?_
  refine x_iadd X dL_law_268 ?_
  refine x_sld X hW hS (i + 1) (by omega) (by omega) hz1 dL_law_269 ?_
  refine lv_aload_n X.1 X.2.1 dL_law_270 rfl (lv_at hl 3 rfl) ?_
  refine lv_iload_n X.1 X.2.1 dL_law_271 rfl (lv_at hl 0 rfl) ?_
  refine x_iconst X dL_law_272 ?_
  refine x_iadd X dL_law_273 ?_
  refine x_sld X hW hS (i + 2) (by omega) (by omega) hz2 dL_law_274 ?_
  refine lv_aload_n X.1 X.2.1 dL_law_275 rfl (lv_at hl 3 rfl) ?_
  refine lv_iload_n X.1 X.2.1 dL_law_276 rfl (lv_at hl 0 rfl) ?_
  refine x_iconst X dL_law_277 ?_
  refine x_iadd X dL_law_278 ?_
  refine x_sld X hW hS (i + 3) (by omega) (by omega) hz3 dL_law_279 ?_
  refine x_i2l X hI3 dL_law_280 ?_
  refine x_bipush X (by decide) dL_law_281 ?_
  refine lv_lshl X.1 X.2.1 dL_law_283 rfl ?_
  refine lv_aload_n X.1 X.2.1 dL_law_284 rfl (lv_at hl 3 rfl) ?_
  refine lv_iload_n X.1 X.2.1 dL_law_285 rfl (lv_at hl 0 rfl) ?_
  refine x_iconst X dL_law_286 ?_
  refine x_iadd X dL_law_287 ?_
  refine x_sld X hW hS (i + 4) (by omega) (by omega) hz4 dL_law_288 ?_
  refine x_i2l X hI4 dL_law_289 ?_
  refine x_ldc2 X (4294967295) (by decide) (inr1L _ (by decide +kernel : Cond.constantLong RL 23 (4294967295) ∈ wsL_law_r1)) dL_law_290 ?_
  refine lv_land X.1 X.2.1 dL_law_293 ?_
  refine lv_lor X.1 X.2.1 dL_law_294 ?_
  rw [hv9]
  refine x_ci (x_runV (As := [.int (iI z1), .int (iI z2), .long (lI v9)]) (k := 3) (rest := [.int r1]) X hW (c_X11_write l E A 227 H.size g1 210 q rw rl nm z1 z2 v9 (by omega) m0 mR hI1 hI2 hv8) (by omega) m0 rfl gL_law_X11_write rfl rfl rfl (by decide +kernel) ⟨(Nat.le_of_ble_eq_true rfl), (Nat.le_of_ble_eq_true rfl)⟩ rfl hl.1 rfl (Nat.le_of_ble_eq_true rfl) dL_law_295 hcs) hW (fun r2 g2 H2 locs2 hp2 hW2 => ?_)
  obtain ⟨e2, s2, n2, hf2⟩ := hp2
  obtain rfl : r1 = r2 := e1.trans e2.symm
  refine lv_icmp_eq (tgt := 909) X.1 X.2.1 dL_law_298 (by decide) (fun c_ => ?_) (fun c_ => absurd rfl c_)
  by_cases hc : wrR rl z1 z2 = 0
  · skip
    have hC1 : LC E A g1 0 rw rl (va_up nm z1.toNat (va_up (nm z1.toNat) z2.toNat (cutL (rw z1.toNat) (lI v9)).toInt)) bk L cz co br py hz ta tb xz bx px P Q od tz bz := ⟨(hf1 0 (by omega)).trans c0, s1 hc, cB.frame (hf1 _ (by omega)) (fun j h1 h2 => hf1 j (by omega)), cT.frame (fun j h1 h2 => hf1 j (by omega)), cC.frame (fun j h1 h2 => hf1 j (by omega)), cP.frame (fun j h1 h2 => hf1 j (by omega)), cK.frame (fun j h1 h2 => hf1 j (by omega)), cH.frame (fun j h1 h2 => hf1 j (by omega)), cX.frame (fun j h1 h2 => hf1 j (by omega))⟩
    have hC2 := LC_fr (g' := g2) hC1 (fun j h => hf2 j (by omega))
    have hM2 : LM E A g2 210 rw rl (va_up nm z1.toNat (va_up (nm z1.toNat) z2.toNat (cutL (rw z1.toNat) (lI v9)).toInt)) bk L cz co br py hz ta tb xz bx px P Q od tz bz := ⟨q, (hf2 210 (by omega)).trans m0, mq, MR_frame mN (hf2 _ (by omega)), s2 hc, mB.frame (fun j h1 h2 => hf2 j (by omega)), mC.frame (hf2 _ (by omega)) (hf2 _ (by omega)), mP.frame (hf2 _ (by omega)), mH.frame (hf2 _ (by omega)) (hf2 _ (by omega)), mX.frame (hf2 _ (by omega)) (hf2 _ (by omega)), ⟨f16, (hf2 _ (by omega)).trans m16⟩⟩
    exact kont g2 H2 locs2 hW2 ⟨_, _, _, _, _, _, _, _, _, _, _, _, _, _, _, _, _, _, _, _, hC2, hM2, hP⟩
  · have hC1 : LC E A g1 0 rw rl nm bk L cz co br py hz ta tb xz bx px P Q od tz bz := ⟨(hf1 0 (by omega)).trans c0, n1 hc, cB.frame (hf1 _ (by omega)) (fun j h1 h2 => hf1 j (by omega)), cT.frame (fun j h1 h2 => hf1 j (by omega)), cC.frame (fun j h1 h2 => hf1 j (by omega)), cP.frame (fun j h1 h2 => hf1 j (by omega)), cK.frame (fun j h1 h2 => hf1 j (by omega)), cH.frame (fun j h1 h2 => hf1 j (by omega)), cX.frame (fun j h1 h2 => hf1 j (by omega))⟩
    have hC2 := LC_fr (g' := g2) hC1 (fun j h => hf2 j (by omega))
    have hM2 : LM E A g2 210 rw rl nm bk L cz co br py hz ta tb xz bx px P Q od tz bz := ⟨q, (hf2 210 (by omega)).trans m0, mq, MR_frame mN (hf2 _ (by omega)), (by have hh := n2 hc; subst hh; exact mR), mB.frame (fun j h1 h2 => hf2 j (by omega)), mC.frame (hf2 _ (by omega)) (hf2 _ (by omega)), mP.frame (hf2 _ (by omega)), mH.frame (hf2 _ (by omega)) (hf2 _ (by omega)), mX.frame (hf2 _ (by omega)) (hf2 _ (by omega)), ⟨f16, (hf2 _ (by omega)).trans m16⟩⟩
    exact kont g2 H2 locs2 hW2 ⟨_, _, _, _, _, _, _, _, _, _, _, _, _, _, _, _, _, _, _, _, hC2, hM2, hP⟩
set_option maxHeartbeats 4000000 in
set_option maxRecDepth 100000 in
theorem op_book {p : Program} {l : Launch} {e : Env} {s : State} {m : MethodId} {args : Array Value} {below : List Frame} {meth : Method} {c : Code} {H : Heap} {locs : List Loc} {cells slots : Nat} {QQ : State → Prop} {E : wE} {A : Nat → Nat} {g : Nat → va_E} {ls : Array Slot} {b LL i : Nat} {xs : Nat → Int32} (X : CallFix p m c cL_law 4 s args wsL_law RL) (hcs : cells ≤ room_1.cells ∧ slots ≤ room_1.slots) (hS : SX (fun q => s.heap.size ≤ q) s b LL xs) (hW : wH E (fun q => s.heap.size ≤ q) A 227 s g H locs) (hI : LI E A g) (hi : i + 5 ≤ LL) (hl : lv_has ls 4 [(3, .int (iI (i : Int))), (2, .ref (A 210)), (1, .ref (A 0)), (0, .ref b)])
    (kont : ∀ (g' : Nat → va_E) (H' : Heap) (locs' : List Loc), wH E (fun q => s.heap.size ≤ q) A 227 s g' H' locs' → LI E A g' → W p l e room_1 s m args below meth c H' locs' cells slots QQ (F0 m 909 ls [])) : W p l e room_1 s m args below meth c H locs cells slots QQ (F0 m 303 ls []) := by
  have hb4 := hS.2.2.2
  obtain ⟨z1, hz1, hI1⟩ := i32_of (xs (i + 1))
  obtain ⟨rw, rl, nm, bk, L, cz, co, br, py, hz, ta, tb, xz, bx, px, P, Q, od, tz, bz, hC, hM, hP⟩ := hI
  obtain ⟨c0, cR, cB, cT, cC, cP, cK, cH, cX⟩ := id hC
  obtain ⟨⟨fb16, fbk⟩, ⟨fc10, fck⟩, ⟨fx6, fxk⟩, ⟨fh20, fhk⟩, fpy⟩ := LM_facts hM
  refine lv_aload_n X.1 X.2.1 dL_law_303 rfl (lv_at hl 2 rfl) ?_
  refine lv_aload_n X.1 X.2.1 dL_law_304 rfl (lv_at hl 3 rfl) ?_
  refine lv_iload_n X.1 X.2.1 dL_law_305 rfl (lv_at hl 0 rfl) ?_
  refine x_iconst X dL_law_306 ?_
  refine x_iadd X dL_law_307 ?_
  refine x_sld X hW hS (i + 1) (by omega) (by omega) hz1 dL_law_308 ?_
  refine x_ci (x_runV (As := [.int (iI z1)]) (k := 1) (rest := []) X hW (c_X10_book l E A 227 H.size g 0 bk rw rl nm L z1 (by omega) c0 cR cB hI1) (by omega) c0 rfl gL_law_X10_book rfl rfl rfl (by decide +kernel) ⟨(Nat.le_of_ble_eq_true rfl), (Nat.le_of_ble_eq_true rfl)⟩ rfl hl.1 rfl (Nat.le_of_ble_eq_true rfl) dL_law_309 hcs) hW (fun r1 g1 H locs hp1 hW => ?_)
  obtain ⟨e1, s1, n1, hf1⟩ := hp1
  have hM1 := LM_fr (g' := g1) hM (fun j h => hf1 j (by omega))
  obtain ⟨q, m0, mq, mN, mR, mB, mC, mP, mH, mX, f16, m16⟩ := hM1
  refine lv_aload_n X.1 X.2.1 dL_law_312 rfl (lv_at hl 1 rfl) ?_
  refine lv_aload_n X.1 X.2.1 dL_law_313 rfl (lv_at hl 3 rfl) ?_
  refine lv_iload_n X.1 X.2.1 dL_law_314 rfl (lv_at hl 0 rfl) ?_
  refine x_iconst X dL_law_315 ?_
  refine x_iadd X dL_law_316 ?_
  refine x_sld X hW hS (i + 1) (by omega) (by omega) hz1 dL_law_317 ?_
  refine x_ci (x_runV (As := [.int (iI z1)]) (k := 1) (rest := [.int r1]) X hW (c_X11_book l E A 227 H.size g1 210 q rw rl nm bk L z1 (by omega) m0 mR mq.1 mB hI1) (by omega) m0 rfl gL_law_X11_book rfl rfl rfl (by decide +kernel) ⟨(Nat.le_of_ble_eq_true rfl), (Nat.le_of_ble_eq_true rfl)⟩ rfl hl.1 rfl (Nat.le_of_ble_eq_true rfl) dL_law_318 hcs) hW (fun r2 g2 H2 locs2 hp2 hW2 => ?_)
  obtain ⟨e2, s2, n2, hf2⟩ := hp2
  obtain rfl : r1 = r2 := e1.trans e2.symm
  refine lv_icmp_eq (tgt := 909) X.1 X.2.1 dL_law_321 (by decide) (fun c_ => ?_) (fun c_ => absurd rfl c_)
  rcases Int.lt_or_le (bkR rl nm bk z1) 0 with hc | hc
  · have hC1 : LC E A g1 0 rw rl nm bk L cz co br py hz ta tb xz bx px P Q od tz bz := ⟨(n1 hc).1, cR.frame (hf1 _ (by omega)) (fun j h1 h2 => hf1 j (by omega)), (n1 hc).2, cT.frame (fun j h1 h2 => hf1 j (by omega)), cC.frame (fun j h1 h2 => hf1 j (by omega)), cP.frame (fun j h1 h2 => hf1 j (by omega)), cK.frame (fun j h1 h2 => hf1 j (by omega)), cH.frame (fun j h1 h2 => hf1 j (by omega)), cX.frame (fun j h1 h2 => hf1 j (by omega))⟩
    have hC2 := LC_fr (g' := g2) hC1 (fun j h => hf2 j (by omega))
    have hM2 : LM E A g2 210 rw rl nm bk L cz co br py hz ta tb xz bx px P Q od tz bz := ⟨q, (n2 hc).1, mq, MR_frame mN (hf2 _ (by omega)), mR.frame (hf2 _ (by omega)) (hf2 _ (by omega)) (hf2 _ (by omega)), (n2 hc).2, mC.frame (hf2 _ (by omega)) (hf2 _ (by omega)), mP.frame (hf2 _ (by omega)), mH.frame (hf2 _ (by omega)) (hf2 _ (by omega)), mX.frame (hf2 _ (by omega)) (hf2 _ (by omega)), ⟨f16, (hf2 _ (by omega)).trans m16⟩⟩
    exact kont g2 H2 locs2 hW2 ⟨_, _, _, _, _, _, _, _, _, _, _, _, _, _, _, _, _, _, _, _, hC2, hM2, hP⟩
  · skip
    have hC1 : LC E A g1 0 rw rl nm (bk + 1) (va_up L bk (rdL (nm z1.toNat) (nm z1.toNat 0).toNat)) cz co br py hz ta tb xz bx px P Q od tz bz := ⟨(s1 hc).1, cR.frame (hf1 _ (by omega)) (fun j h1 h2 => hf1 j (by omega)), (s1 hc).2, cT.frame (fun j h1 h2 => hf1 j (by omega)), cC.frame (fun j h1 h2 => hf1 j (by omega)), cP.frame (fun j h1 h2 => hf1 j (by omega)), cK.frame (fun j h1 h2 => hf1 j (by omega)), cH.frame (fun j h1 h2 => hf1 j (by omega)), cX.frame (fun j h1 h2 => hf1 j (by omega))⟩
    have hC2 := LC_fr (g' := g2) hC1 (fun j h => hf2 j (by omega))
    have hM2 : LM E A g2 210 rw rl nm (bk + 1) (va_up L bk (rdL (nm z1.toNat) (nm z1.toNat 0).toNat)) cz co br py hz ta tb xz bx px P Q od tz bz := ⟨(va_up q 0 ((bk : Int) + 1)), (s2 hc).1, ⟨by rw [va_up_self]; omega, by rw [va_up_ne (k := 0) (j := 1) _ _ (by decide)]; exact mq.2.1, by rw [va_up_ne (k := 0) (j := 2) _ _ (by decide)]; exact mq.2.2.1, by rw [va_up_ne (k := 0) (j := 3) _ _ (by decide)]; exact mq.2.2.2⟩, MR_frame mN (hf2 _ (by omega)), mR.frame (hf2 _ (by omega)) (hf2 _ (by omega)) (hf2 _ (by omega)), (s2 hc).2, (mC.any (Nat.le_succ _)).frame (hf2 _ (by omega)) (hf2 _ (by omega)), mP.frame (hf2 _ (by omega)), mH.frame (hf2 _ (by omega)) (hf2 _ (by omega)), (mX.any (Nat.le_succ _)).frame (hf2 _ (by omega)) (hf2 _ (by omega)), ⟨f16, (hf2 _ (by omega)).trans m16⟩⟩
    exact kont g2 H2 locs2 hW2 ⟨_, _, _, _, _, _, _, _, _, _, _, _, _, _, _, _, _, _, _, _, hC2, hM2, ⟨hP.1, fun k hk => by have h9 := (fxk k hk).1; rw [va_up_ne (k := bk) (j := bx k) _ _ (by omega)]; exact hP.2 k hk⟩⟩
set_option maxHeartbeats 4000000 in
set_option maxRecDepth 100000 in
theorem op_box {p : Program} {l : Launch} {e : Env} {s : State} {m : MethodId} {args : Array Value} {below : List Frame} {meth : Method} {c : Code} {H : Heap} {locs : List Loc} {cells slots : Nat} {QQ : State → Prop} {E : wE} {A : Nat → Nat} {g : Nat → va_E} {ls : Array Slot} {b LL i : Nat} {xs : Nat → Int32} (X : CallFix p m c cL_law 4 s args wsL_law RL) (hcs : cells ≤ room_1.cells ∧ slots ≤ room_1.slots) (hS : SX (fun q => s.heap.size ≤ q) s b LL xs) (hW : wH E (fun q => s.heap.size ≤ q) A 227 s g H locs) (hI : LI E A g) (hi : i + 5 ≤ LL) (hl : lv_has ls 4 [(3, .int (iI (i : Int))), (2, .ref (A 210)), (1, .ref (A 0)), (0, .ref b)])
    (kont : ∀ (g' : Nat → va_E) (H' : Heap) (locs' : List Loc), wH E (fun q => s.heap.size ≤ q) A 227 s g' H' locs' → LI E A g' → W p l e room_1 s m args below meth c H' locs' cells slots QQ (F0 m 909 ls [])) : W p l e room_1 s m args below meth c H locs cells slots QQ (F0 m 701 ls []) := by
  have hb4 := hS.2.2.2
  obtain ⟨z1, hz1, hI1⟩ := i32_of (xs (i + 1))
  obtain ⟨z2, hz2, hI2⟩ := i32_of (xs (i + 2))
  obtain ⟨rw, rl, nm, bk, L, cz, co, br, py, hz, ta, tb, xz, bx, px, P, Q, od, tz, bz, hC, hM, hP⟩ := hI
  obtain ⟨c0, cR, cB, cT, cC, cP, cK, cH, cX⟩ := id hC
  refine lv_aload_n X.1 X.2.1 dL_law_701 rfl (lv_at hl 2 rfl) ?_
  refine lv_aload_n X.1 X.2.1 dL_law_702 rfl (lv_at hl 3 rfl) ?_
  refine lv_iload_n X.1 X.2.1 dL_law_703 rfl (lv_at hl 0 rfl) ?_
  refine x_iconst X dL_law_704 ?_
  refine x_iadd X dL_law_705 ?_
  refine x_sld X hW hS (i + 1) (by omega) (by omega) hz1 dL_law_706 ?_
  refine lv_aload_n X.1 X.2.1 dL_law_707 rfl (lv_at hl 3 rfl) ?_
  refine lv_iload_n X.1 X.2.1 dL_law_708 rfl (lv_at hl 0 rfl) ?_
  refine x_iconst X dL_law_709 ?_
  refine x_iadd X dL_law_710 ?_
  refine x_sld X hW hS (i + 2) (by omega) (by omega) hz2 dL_law_711 ?_
  refine x_ci (x_runV (As := [.int (iI z1), .int (iI z2)]) (k := 2) (rest := []) X hW (c_X10_box l E A 227 H.size g 0 bk L xz bx px P Q od z1 z2 (by omega) c0 cB cX hI1 hI2) (by omega) c0 rfl gL_law_X10_box rfl rfl rfl (by decide +kernel) ⟨(Nat.le_of_ble_eq_true rfl), (Nat.le_of_ble_eq_true rfl)⟩ rfl hl.1 rfl (Nat.le_of_ble_eq_true rfl) dL_law_712 hcs) hW (fun r1 g1 H locs hp1 hW => ?_)
  obtain ⟨e1, s1, n1, hf1⟩ := hp1
  have hM1 := LM_fr (g' := g1) hM (fun j h => hf1 j (by omega))
  obtain ⟨q, m0, mq, mN, mR, mB, mC, mP, mH, mX, f16, m16⟩ := hM1
  refine lv_aload_n X.1 X.2.1 dL_law_715 rfl (lv_at hl 1 rfl) ?_
  refine lv_aload_n X.1 X.2.1 dL_law_716 rfl (lv_at hl 3 rfl) ?_
  refine lv_iload_n X.1 X.2.1 dL_law_717 rfl (lv_at hl 0 rfl) ?_
  refine x_iconst X dL_law_718 ?_
  refine x_iadd X dL_law_719 ?_
  refine x_sld X hW hS (i + 1) (by omega) (by omega) hz1 dL_law_720 ?_
  refine lv_aload_n X.1 X.2.1 dL_law_721 rfl (lv_at hl 3 rfl) ?_
  refine lv_iload_n X.1 X.2.1 dL_law_722 rfl (lv_at hl 0 rfl) ?_
  refine x_iconst X dL_law_723 ?_
  refine x_iadd X dL_law_724 ?_
  refine x_sld X hW hS (i + 2) (by omega) (by omega) hz2 dL_law_725 ?_
  refine x_ci (x_runV (As := [.int (iI z1), .int (iI z2)]) (k := 2) (rest := [.int r1]) X hW (c_X11_box l E A 227 H.size g1 210 q bk xz bx px z1 z2 (by omega) m0 mq.1 mq.2.2.2 cB.2.1 mX hI1 hI2) (by omega) m0 rfl gL_law_X11_box rfl rfl rfl (by decide +kernel) ⟨(Nat.le_of_ble_eq_true rfl), (Nat.le_of_ble_eq_true rfl)⟩ rfl hl.1 rfl (Nat.le_of_ble_eq_true rfl) dL_law_726 hcs) hW (fun r2 g2 H2 locs2 hp2 hW2 => ?_)
  obtain ⟨e2, s2, n2, hf2⟩ := hp2
  obtain rfl : r1 = r2 := e1.trans e2.symm
  refine lv_icmp_eq (tgt := 909) X.1 X.2.1 dL_law_729 (by decide) (fun c_ => ?_) (fun c_ => absurd rfl c_)
  rcases Int.lt_or_le (bxR bk xz z1 z2) 0 with hc | hc
  · obtain rfl := n1 hc
    obtain rfl := n2 hc
    exact kont _ H2 locs2 hW2 ⟨_, _, _, _, _, _, _, _, _, _, _, _, _, _, _, _, _, _, _, _, hC, hM, hP⟩
  · skip
    obtain ⟨P0, Q0, od', hF, hBV⟩ := s1 hc
    have hPn : ∀ k, k < xz + 1 → FairV (L (va_up bx xz z1.toNat k)) ((va_up px xz z2.toNat k * bE (L (va_up bx xz z1.toNat k)) (fun _ => 1) : Nat) : Int) (va_up P xz P0 k) (va_up Q xz Q0 k) := by
      intro k hk
      rcases Nat.lt_or_ge k xz with hk2 | hk2
      · rw [va_up_ne (k := xz) (j := k) bx _ (by omega), va_up_ne (k := xz) (j := k) px _ (by omega), va_up_ne (k := xz) (j := k) P _ (by omega), va_up_ne (k := xz) (j := k) Q _ (by omega)]
        exact hP.2 k hk2
      · obtain rfl : k = xz := by omega
        rw [va_up_self, va_up_self, va_up_self, va_up_self]
        exact hF
    have hC1 : LC E A g1 0 rw rl nm bk L cz co br py hz ta tb (xz + 1) (va_up bx xz z1.toNat) (va_up px xz z2.toNat) (va_up P xz P0) (va_up Q xz Q0) od' tz bz := ⟨(hf1 0 (by omega)).trans c0, cR.frame (hf1 _ (by omega)) (fun j h1 h2 => hf1 j (by omega)), cB.frame (hf1 _ (by omega)) (fun j h1 h2 => hf1 j (by omega)), cT.frame (fun j h1 h2 => hf1 j (by omega)), cC.frame (fun j h1 h2 => hf1 j (by omega)), cP.frame (fun j h1 h2 => hf1 j (by omega)), cK.frame (fun j h1 h2 => hf1 j (by omega)), cH.frame (fun j h1 h2 => hf1 j (by omega)), hBV⟩
    have hC2 := LC_fr (g' := g2) hC1 (fun j h => hf2 j (by omega))
    have hM2 : LM E A g2 210 rw rl nm bk L cz co br py hz ta tb (xz + 1) (va_up bx xz z1.toNat) (va_up px xz z2.toNat) (va_up P xz P0) (va_up Q xz Q0) od' tz bz := ⟨(va_up q 3 ((xz : Int) + 1)), (s2 hc).1, ⟨by rw [va_up_ne (k := 3) (j := 0) _ _ (by decide)]; exact mq.1, by rw [va_up_ne (k := 3) (j := 1) _ _ (by decide)]; exact mq.2.1, by rw [va_up_ne (k := 3) (j := 2) _ _ (by decide)]; exact mq.2.2.1, by rw [va_up_self]; omega⟩, MR_frame mN (hf2 _ (by omega)), mR.frame (hf2 _ (by omega)) (hf2 _ (by omega)) (hf2 _ (by omega)), mB.frame (fun j h1 h2 => hf2 j (by omega)), mC.frame (hf2 _ (by omega)) (hf2 _ (by omega)), mP.frame (hf2 _ (by omega)), mH.frame (hf2 _ (by omega)) (hf2 _ (by omega)), (s2 hc).2, ⟨f16, (hf2 _ (by omega)).trans m16⟩⟩
    exact kont g2 H2 locs2 hW2 ⟨_, _, _, _, _, _, _, _, _, _, _, _, _, _, _, _, _, _, _, _, hC2, hM2, ⟨hP.1, hPn⟩⟩
set_option maxHeartbeats 4000000 in
set_option maxRecDepth 100000 in
theorem op_count {p : Program} {l : Launch} {e : Env} {s : State} {m : MethodId} {args : Array Value} {below : List Frame} {meth : Method} {c : Code} {H : Heap} {locs : List Loc} {cells slots : Nat} {QQ : State → Prop} {E : wE} {A : Nat → Nat} {g : Nat → va_E} {ls : Array Slot} {b LL i : Nat} {xs : Nat → Int32} (X : CallFix p m c cL_law 4 s args wsL_law RL) (hcs : cells ≤ room_1.cells ∧ slots ≤ room_1.slots) (hS : SX (fun q => s.heap.size ≤ q) s b LL xs) (hW : wH E (fun q => s.heap.size ≤ q) A 227 s g H locs) (hI : LI E A g) (hi : i + 5 ≤ LL) (hl : lv_has ls 4 [(3, .int (iI (i : Int))), (2, .ref (A 210)), (1, .ref (A 0)), (0, .ref b)])
    (kont : ∀ (g' : Nat → va_E) (H' : Heap) (locs' : List Loc), wH E (fun q => s.heap.size ≤ q) A 227 s g' H' locs' → LI E A g' → W p l e room_1 s m args below meth c H' locs' cells slots QQ (F0 m 909 ls [])) : W p l e room_1 s m args below meth c H locs cells slots QQ (F0 m 886 ls []) := by
  have hb4 := hS.2.2.2
  obtain ⟨z1, hz1, hI1⟩ := i32_of (xs (i + 1))
  obtain ⟨rw, rl, nm, bk, L, cz, co, br, py, hz, ta, tb, xz, bx, px, P, Q, od, tz, bz, hC, hM, hP⟩ := hI
  obtain ⟨c0, cR, cB, cT, cC, cP, cK, cH, cX⟩ := id hC
  refine lv_aload_n X.1 X.2.1 dL_law_886 rfl (lv_at hl 2 rfl) ?_
  refine lv_aload_n X.1 X.2.1 dL_law_887 rfl (lv_at hl 3 rfl) ?_
  refine lv_iload_n X.1 X.2.1 dL_law_888 rfl (lv_at hl 0 rfl) ?_
  refine x_iconst X dL_law_889 ?_
  refine x_iadd X dL_law_890 ?_
  refine x_sld X hW hS (i + 1) (by omega) (by omega) hz1 dL_law_891 ?_
  refine x_ci (x_runV (As := [.int (iI z1)]) (k := 1) (rest := []) X hW (c_X10_count l E A 227 H.size g 0 bk rw rl nm cz co br hz ta tb xz bx px P Q od z1 (by omega) c0 cR cC cH cX hI1) (by omega) c0 rfl gL_law_X10_count rfl rfl rfl (by decide +kernel) ⟨(Nat.le_of_ble_eq_true rfl), (Nat.le_of_ble_eq_true rfl)⟩ rfl hl.1 rfl (Nat.le_of_ble_eq_true rfl) dL_law_892 hcs) hW (fun r1 g1 H locs hp1 hW => ?_)
  obtain ⟨e1, s1⟩ := hp1
  have hf1 : ∀ j : Nat, 0 ≤ j → g1 j = g j := fun j _ => congrFun s1 j
  have hM1 := LM_fr (g' := g1) hM (fun j h => hf1 j (by omega))
  obtain ⟨q, m0, mq, mN, mR, mB, mC, mP, mH, mX, f16, m16⟩ := hM1
  refine lv_aload_n X.1 X.2.1 dL_law_895 rfl (lv_at hl 1 rfl) ?_
  refine lv_aload_n X.1 X.2.1 dL_law_896 rfl (lv_at hl 3 rfl) ?_
  refine lv_iload_n X.1 X.2.1 dL_law_897 rfl (lv_at hl 0 rfl) ?_
  refine x_iconst X dL_law_898 ?_
  refine x_iadd X dL_law_899 ?_
  refine x_sld X hW hS (i + 1) (by omega) (by omega) hz1 dL_law_900 ?_
  refine x_ci (x_runV (As := [.int (iI z1)]) (k := 1) (rest := [.int r1]) X hW (c_X11_count l E A 227 H.size g1 210 q rw rl nm z1 (by omega) m0 mR hI1) (by omega) m0 rfl gL_law_X11_count rfl rfl rfl (by decide +kernel) ⟨(Nat.le_of_ble_eq_true rfl), (Nat.le_of_ble_eq_true rfl)⟩ rfl hl.1 rfl (Nat.le_of_ble_eq_true rfl) dL_law_901 hcs) hW (fun r2 g2 H2 locs2 hp2 hW2 => ?_)
  obtain ⟨e2, s2⟩ := hp2
  obtain rfl : r1 = r2 := e1.trans (by rw [e2, mq.1, mq.2.1, mq.2.2.1, mq.2.2.2])
  refine lv_icmp_eq (tgt := 909) X.1 X.2.1 dL_law_904 (by decide) (fun c_ => ?_) (fun c_ => absurd rfl c_)
  exact kont g2 H2 locs2 hW2 ⟨_, _, _, _, _, _, _, _, _, _, _, _, _, _, _, _, _, _, _, _, LC_fr (g' := g2) hC (fun j h => (congrFun s2 j).trans (hf1 j (by omega))), LM_fr (g' := g2) hM (fun j h => (congrFun s2 j).trans (hf1 j (by omega))), hP⟩
set_option maxHeartbeats 4000000 in
set_option maxRecDepth 100000 in
theorem op_look {p : Program} {l : Launch} {e : Env} {s : State} {m : MethodId} {args : Array Value} {below : List Frame} {meth : Method} {c : Code} {H : Heap} {locs : List Loc} {cells slots : Nat} {QQ : State → Prop} {E : wE} {A : Nat → Nat} {g : Nat → va_E} {ls : Array Slot} {b LL i : Nat} {xs : Nat → Int32} (X : CallFix p m c cL_law 4 s args wsL_law RL) (hcs : cells ≤ room_1.cells ∧ slots ≤ room_1.slots) (hS : SX (fun q => s.heap.size ≤ q) s b LL xs) (hW : wH E (fun q => s.heap.size ≤ q) A 227 s g H locs) (hI : LI E A g) (hi : i + 5 ≤ LL) (hl : lv_has ls 4 [(3, .int (iI (i : Int))), (2, .ref (A 210)), (1, .ref (A 0)), (0, .ref b)])
    (kont : ∀ (g' : Nat → va_E) (H' : Heap) (locs' : List Loc), wH E (fun q => s.heap.size ≤ q) A 227 s g' H' locs' → LI E A g' → W p l e room_1 s m args below meth c H' locs' cells slots QQ (F0 m 909 ls [])) : W p l e room_1 s m args below meth c H locs cells slots QQ (F0 m 781 ls []) := by
  have hb4 := hS.2.2.2
  obtain ⟨z1, hz1, hI1⟩ := i32_of (xs (i + 1))
  obtain ⟨rw, rl, nm, bk, L, cz, co, br, py, hz, ta, tb, xz, bx, px, P, Q, od, tz, bz, hC, hM, hP⟩ := hI
  obtain ⟨c0, cR, cB, cT, cC, cP, cK, cH, cX⟩ := id hC
  refine lv_aload_n X.1 X.2.1 dL_law_781 rfl (lv_at hl 2 rfl) ?_
  refine lv_aload_n X.1 X.2.1 dL_law_782 rfl (lv_at hl 3 rfl) ?_
  refine lv_iload_n X.1 X.2.1 dL_law_783 rfl (lv_at hl 0 rfl) ?_
  refine x_iconst X dL_law_784 ?_
  refine x_iadd X dL_law_785 ?_
  refine x_sld X hW hS (i + 1) (by omega) (by omega) hz1 dL_law_786 ?_
  refine x_ci (x_runV (As := [.int (iI z1)]) (k := 1) (rest := []) X hW (c_X10_look l E A 227 H.size g 0 bk tz bz z1 (by omega) c0 cT hI1) (by omega) c0 rfl gL_law_X10_look rfl rfl rfl (by decide +kernel) ⟨(Nat.le_of_ble_eq_true rfl), (Nat.le_of_ble_eq_true rfl)⟩ rfl hl.1 rfl (Nat.le_of_ble_eq_true rfl) dL_law_787 hcs) hW (fun r1 g1 H locs hp1 hW => ?_)
  obtain ⟨e1, s1⟩ := hp1
  have hf1 : ∀ j : Nat, 0 ≤ j → g1 j = g j := fun j _ => congrFun s1 j
  have hM1 := LM_fr (g' := g1) hM (fun j h => hf1 j (by omega))
  obtain ⟨q, m0, mq, mN, mR, mB, mC, mP, mH, mX, f16, m16⟩ := hM1
  obtain ⟨N, hN, hN0, hN1⟩ := id mN
  refine lv_aload_n X.1 X.2.1 dL_law_790 rfl (lv_at hl 1 rfl) ?_
  refine lv_aload_n X.1 X.2.1 dL_law_791 rfl (lv_at hl 3 rfl) ?_
  refine lv_iload_n X.1 X.2.1 dL_law_792 rfl (lv_at hl 0 rfl) ?_
  refine x_iconst X dL_law_793 ?_
  refine x_iadd X dL_law_794 ?_
  refine x_sld X hW hS (i + 1) (by omega) (by omega) hz1 dL_law_795 ?_
  refine x_ci (x_runV (As := [.int (iI z1)]) (k := 1) (rest := [.int r1]) X hW (c_X11_look l E A 227 H.size g1 210 q N z1 tz bz (by omega) m0 hN hN0 hN1 (Nat.lt_of_le_of_lt hP.1.1 (by decide)) (Nat.lt_of_le_of_lt hP.1.2 (by decide)) hI1) (by omega) m0 rfl gL_law_X11_look rfl rfl rfl (by decide +kernel) ⟨(Nat.le_of_ble_eq_true rfl), (Nat.le_of_ble_eq_true rfl)⟩ rfl hl.1 rfl (Nat.le_of_ble_eq_true rfl) dL_law_796 hcs) hW (fun r2 g2 H2 locs2 hp2 hW2 => ?_)
  obtain ⟨e2, ⟨N', hN', hNx⟩, hf2⟩ := hp2
  obtain rfl : r1 = r2 := e1.trans e2.symm
  refine lv_icmp_eq (tgt := 909) X.1 X.2.1 dL_law_799 (by decide) (fun c_ => ?_) (fun c_ => absurd rfl c_)
  have hC1 : LC E A g1 0 rw rl nm bk L cz co br py hz ta tb xz bx px P Q od tz bz := ⟨(hf1 0 (by omega)).trans c0, cR.frame (hf1 _ (by omega)) (fun j h1 h2 => hf1 j (by omega)), cB.frame (hf1 _ (by omega)) (fun j h1 h2 => hf1 j (by omega)), cT.frame (fun j h1 h2 => hf1 j (by omega)), cC.frame (fun j h1 h2 => hf1 j (by omega)), cP.frame (fun j h1 h2 => hf1 j (by omega)), cK.frame (fun j h1 h2 => hf1 j (by omega)), cH.frame (fun j h1 h2 => hf1 j (by omega)), cX.frame (fun j h1 h2 => hf1 j (by omega))⟩
  have hC2 := LC_fr (g' := g2) hC1 (fun j h => hf2 j (by omega))
  have hM2 : LM E A g2 210 rw rl nm bk L cz co br py hz ta tb xz bx px P Q od tz bz := ⟨q, (hf2 210 (by omega)).trans m0, mq, ⟨N', hN', (hNx 0 (by decide)).trans hN0, (hNx 1 (by decide)).trans hN1⟩, mR.frame (hf2 _ (by omega)) (hf2 _ (by omega)) (hf2 _ (by omega)), mB.frame (fun j h1 h2 => hf2 j (by omega)), mC.frame (hf2 _ (by omega)) (hf2 _ (by omega)), mP.frame (hf2 _ (by omega)), mH.frame (hf2 _ (by omega)) (hf2 _ (by omega)), mX.frame (hf2 _ (by omega)) (hf2 _ (by omega)), ⟨f16, (hf2 _ (by omega)).trans m16⟩⟩
  exact kont g2 H2 locs2 hW2 ⟨_, _, _, _, _, _, _, _, _, _, _, _, _, _, _, _, _, _, _, _, hC2, hM2, hP⟩
set_option maxHeartbeats 4000000 in
set_option maxRecDepth 100000 in
theorem op_part {p : Program} {l : Launch} {e : Env} {s : State} {m : MethodId} {args : Array Value} {below : List Frame} {meth : Method} {c : Code} {H : Heap} {locs : List Loc} {cells slots : Nat} {QQ : State → Prop} {E : wE} {A : Nat → Nat} {g : Nat → va_E} {ls : Array Slot} {b LL i : Nat} {xs : Nat → Int32} (X : CallFix p m c cL_law 4 s args wsL_law RL) (hcs : cells ≤ room_1.cells ∧ slots ≤ room_1.slots) (hS : SX (fun q => s.heap.size ≤ q) s b LL xs) (hW : wH E (fun q => s.heap.size ≤ q) A 227 s g H locs) (hI : LI E A g) (hi : i + 5 ≤ LL) (hl : lv_has ls 4 [(3, .int (iI (i : Int))), (2, .ref (A 210)), (1, .ref (A 0)), (0, .ref b)])
    (kont : ∀ (g' : Nat → va_E) (H' : Heap) (locs' : List Loc), wH E (fun q => s.heap.size ≤ q) A 227 s g' H' locs' → LI E A g' → W p l e room_1 s m args below meth c H' locs' cells slots QQ (F0 m 909 ls [])) : W p l e room_1 s m args below meth c H locs cells slots QQ (F0 m 804 ls []) := by
  have hb4 := hS.2.2.2
  obtain ⟨z1, hz1, hI1⟩ := i32_of (xs (i + 1))
  obtain ⟨z2, hz2, hI2⟩ := i32_of (xs (i + 2))
  obtain ⟨rw, rl, nm, bk, L, cz, co, br, py, hz, ta, tb, xz, bx, px, P, Q, od, tz, bz, hC, hM, hP⟩ := hI
  obtain ⟨c0, cR, cB, cT, cC, cP, cK, cH, cX⟩ := id hC
  by_cases hw : z1 = 0
  · skip
    refine lv_aload_n X.1 X.2.1 dL_law_804 rfl (lv_at hl 2 rfl) ?_
    refine lv_aload_n X.1 X.2.1 dL_law_805 rfl (lv_at hl 3 rfl) ?_
    refine lv_iload_n X.1 X.2.1 dL_law_806 rfl (lv_at hl 0 rfl) ?_
    refine x_iconst X dL_law_807 ?_
    refine x_iadd X dL_law_808 ?_
    refine x_sld X hW hS (i + 1) (by omega) (by omega) hz1 dL_law_809 ?_
    refine x_if_eq (tgt := 817) X hI1 dL_law_810 (by decide) (fun _ => ?_) (fun h => absurd hw h)
    refine x_iconst X dL_law_817 ?_
    refine lv_aload_n X.1 X.2.1 dL_law_818 rfl (lv_at hl 3 rfl) ?_
    refine lv_iload_n X.1 X.2.1 dL_law_819 rfl (lv_at hl 0 rfl) ?_
    refine x_iconst X dL_law_820 ?_
    refine x_iadd X dL_law_821 ?_
    refine x_sld X hW hS (i + 2) (by omega) (by omega) hz2 dL_law_822 ?_
    refine x_ci (x_runV (As := [.int (iI 0), .int (iI z2)]) (k := 2) (rest := []) X hW (c_X10_part l E A 227 H.size g 0 bk tz bz 0 z2 (by omega) c0 cT I32_0 hI2) (by omega) c0 rfl gL_law_X10_part rfl rfl rfl (by decide +kernel) ⟨(Nat.le_of_ble_eq_true rfl), (Nat.le_of_ble_eq_true rfl)⟩ rfl hl.1 rfl (Nat.le_of_ble_eq_true rfl) dL_law_823 hcs) hW (fun r1 g1 H locs hp1 hW => ?_)
    obtain ⟨e1, s1⟩ := hp1
    have hf1 : ∀ j : Nat, 0 ≤ j → g1 j = g j := fun j _ => congrFun s1 j
    have hM1 := LM_fr (g' := g1) hM (fun j h => hf1 j (by omega))
    obtain ⟨q, m0, mq, mN, mR, mB, mC, mP, mH, mX, f16, m16⟩ := hM1
    obtain ⟨N, hN, hN0, hN1⟩ := id mN
    refine lv_aload_n X.1 X.2.1 dL_law_826 rfl (lv_at hl 1 rfl) ?_
    refine lv_aload_n X.1 X.2.1 dL_law_827 rfl (lv_at hl 3 rfl) ?_
    refine lv_iload_n X.1 X.2.1 dL_law_828 rfl (lv_at hl 0 rfl) ?_
    refine x_iconst X dL_law_829 ?_
    refine x_iadd X dL_law_830 ?_
    refine x_sld X hW hS (i + 1) (by omega) (by omega) hz1 dL_law_831 ?_
    refine x_if_eq (tgt := 839) X hI1 dL_law_832 (by decide) (fun _ => ?_) (fun h => absurd hw h)
    refine x_iconst X dL_law_839 ?_
    refine lv_aload_n X.1 X.2.1 dL_law_840 rfl (lv_at hl 3 rfl) ?_
    refine lv_iload_n X.1 X.2.1 dL_law_841 rfl (lv_at hl 0 rfl) ?_
    refine x_iconst X dL_law_842 ?_
    refine x_iadd X dL_law_843 ?_
    refine x_sld X hW hS (i + 2) (by omega) (by omega) hz2 dL_law_844 ?_
    refine x_ci (x_runV (As := [.int (iI 0), .int (iI z2)]) (k := 2) (rest := [.int r1]) X hW (c_X11_part l E A 227 H.size g1 210 q N 0 z2 tz bz (by omega) m0 hN hN0 hN1 (Nat.lt_of_le_of_lt hP.1.1 (by decide)) (Nat.lt_of_le_of_lt hP.1.2 (by decide)) I32_0 hI2) (by omega) m0 rfl gL_law_X11_part rfl rfl rfl (by decide +kernel) ⟨(Nat.le_of_ble_eq_true rfl), (Nat.le_of_ble_eq_true rfl)⟩ rfl hl.1 rfl (Nat.le_of_ble_eq_true rfl) dL_law_845 hcs) hW (fun r2 g2 H2 locs2 hp2 hW2 => ?_)
    obtain ⟨e2, ⟨N', hN', hNx⟩, hf2⟩ := hp2
    obtain rfl : r1 = r2 := e1.trans e2.symm
    refine lv_icmp_eq (tgt := 909) X.1 X.2.1 dL_law_848 (by decide) (fun c_ => ?_) (fun c_ => absurd rfl c_)
    have hC1 : LC E A g1 0 rw rl nm bk L cz co br py hz ta tb xz bx px P Q od tz bz := ⟨(hf1 0 (by omega)).trans c0, cR.frame (hf1 _ (by omega)) (fun j h1 h2 => hf1 j (by omega)), cB.frame (hf1 _ (by omega)) (fun j h1 h2 => hf1 j (by omega)), cT.frame (fun j h1 h2 => hf1 j (by omega)), cC.frame (fun j h1 h2 => hf1 j (by omega)), cP.frame (fun j h1 h2 => hf1 j (by omega)), cK.frame (fun j h1 h2 => hf1 j (by omega)), cH.frame (fun j h1 h2 => hf1 j (by omega)), cX.frame (fun j h1 h2 => hf1 j (by omega))⟩
    have hC2 := LC_fr (g' := g2) hC1 (fun j h => hf2 j (by omega))
    have hM2 : LM E A g2 210 rw rl nm bk L cz co br py hz ta tb xz bx px P Q od tz bz := ⟨q, (hf2 210 (by omega)).trans m0, mq, ⟨N', hN', (hNx 0 (by decide)).trans hN0, (hNx 1 (by decide)).trans hN1⟩, mR.frame (hf2 _ (by omega)) (hf2 _ (by omega)) (hf2 _ (by omega)), mB.frame (fun j h1 h2 => hf2 j (by omega)), mC.frame (hf2 _ (by omega)) (hf2 _ (by omega)), mP.frame (hf2 _ (by omega)), mH.frame (hf2 _ (by omega)) (hf2 _ (by omega)), mX.frame (hf2 _ (by omega)) (hf2 _ (by omega)), ⟨f16, (hf2 _ (by omega)).trans m16⟩⟩
    exact kont g2 H2 locs2 hW2 ⟨_, _, _, _, _, _, _, _, _, _, _, _, _, _, _, _, _, _, _, _, hC2, hM2, hP⟩
  · skip
    refine lv_aload_n X.1 X.2.1 dL_law_804 rfl (lv_at hl 2 rfl) ?_
    refine lv_aload_n X.1 X.2.1 dL_law_805 rfl (lv_at hl 3 rfl) ?_
    refine lv_iload_n X.1 X.2.1 dL_law_806 rfl (lv_at hl 0 rfl) ?_
    refine x_iconst X dL_law_807 ?_
    refine x_iadd X dL_law_808 ?_
    refine x_sld X hW hS (i + 1) (by omega) (by omega) hz1 dL_law_809 ?_
    refine x_if_eq (tgt := 817) X hI1 dL_law_810 (by decide) (fun h => absurd h hw) (fun _ => ?_)
    refine x_iconst X dL_law_813 ?_
    refine lv_goto (tgt := 818) X.1 X.2.1 dL_law_814 (by decide) ?_
    refine lv_aload_n X.1 X.2.1 dL_law_818 rfl (lv_at hl 3 rfl) ?_
    refine lv_iload_n X.1 X.2.1 dL_law_819 rfl (lv_at hl 0 rfl) ?_
    refine x_iconst X dL_law_820 ?_
    refine x_iadd X dL_law_821 ?_
    refine x_sld X hW hS (i + 2) (by omega) (by omega) hz2 dL_law_822 ?_
    refine x_ci (x_runV (As := [.int (iI 1), .int (iI z2)]) (k := 2) (rest := []) X hW (c_X10_part l E A 227 H.size g 0 bk tz bz 1 z2 (by omega) c0 cT (by unfold I32; omega) hI2) (by omega) c0 rfl gL_law_X10_part rfl rfl rfl (by decide +kernel) ⟨(Nat.le_of_ble_eq_true rfl), (Nat.le_of_ble_eq_true rfl)⟩ rfl hl.1 rfl (Nat.le_of_ble_eq_true rfl) dL_law_823 hcs) hW (fun r1 g1 H locs hp1 hW => ?_)
    obtain ⟨e1, s1⟩ := hp1
    have hf1 : ∀ j : Nat, 0 ≤ j → g1 j = g j := fun j _ => congrFun s1 j
    have hM1 := LM_fr (g' := g1) hM (fun j h => hf1 j (by omega))
    obtain ⟨q, m0, mq, mN, mR, mB, mC, mP, mH, mX, f16, m16⟩ := hM1
    obtain ⟨N, hN, hN0, hN1⟩ := id mN
    refine lv_aload_n X.1 X.2.1 dL_law_826 rfl (lv_at hl 1 rfl) ?_
    refine lv_aload_n X.1 X.2.1 dL_law_827 rfl (lv_at hl 3 rfl) ?_
    refine lv_iload_n X.1 X.2.1 dL_law_828 rfl (lv_at hl 0 rfl) ?_
    refine x_iconst X dL_law_829 ?_
    refine x_iadd X dL_law_830 ?_
    refine x_sld X hW hS (i + 1) (by omega) (by omega) hz1 dL_law_831 ?_
    refine x_if_eq (tgt := 839) X hI1 dL_law_832 (by decide) (fun h => absurd h hw) (fun _ => ?_)
    refine x_iconst X dL_law_835 ?_
    refine lv_goto (tgt := 840) X.1 X.2.1 dL_law_836 (by decide) ?_
    refine lv_aload_n X.1 X.2.1 dL_law_840 rfl (lv_at hl 3 rfl) ?_
    refine lv_iload_n X.1 X.2.1 dL_law_841 rfl (lv_at hl 0 rfl) ?_
    refine x_iconst X dL_law_842 ?_
    refine x_iadd X dL_law_843 ?_
    refine x_sld X hW hS (i + 2) (by omega) (by omega) hz2 dL_law_844 ?_
    refine x_ci (x_runV (As := [.int (iI 1), .int (iI z2)]) (k := 2) (rest := [.int r1]) X hW (c_X11_part l E A 227 H.size g1 210 q N 1 z2 tz bz (by omega) m0 hN hN0 hN1 (Nat.lt_of_le_of_lt hP.1.1 (by decide)) (Nat.lt_of_le_of_lt hP.1.2 (by decide)) (by unfold I32; omega) hI2) (by omega) m0 rfl gL_law_X11_part rfl rfl rfl (by decide +kernel) ⟨(Nat.le_of_ble_eq_true rfl), (Nat.le_of_ble_eq_true rfl)⟩ rfl hl.1 rfl (Nat.le_of_ble_eq_true rfl) dL_law_845 hcs) hW (fun r2 g2 H2 locs2 hp2 hW2 => ?_)
    obtain ⟨e2, ⟨N', hN', hNx⟩, hf2⟩ := hp2
    obtain rfl : r1 = r2 := e1.trans e2.symm
    refine lv_icmp_eq (tgt := 909) X.1 X.2.1 dL_law_848 (by decide) (fun c_ => ?_) (fun c_ => absurd rfl c_)
    have hC1 : LC E A g1 0 rw rl nm bk L cz co br py hz ta tb xz bx px P Q od tz bz := ⟨(hf1 0 (by omega)).trans c0, cR.frame (hf1 _ (by omega)) (fun j h1 h2 => hf1 j (by omega)), cB.frame (hf1 _ (by omega)) (fun j h1 h2 => hf1 j (by omega)), cT.frame (fun j h1 h2 => hf1 j (by omega)), cC.frame (fun j h1 h2 => hf1 j (by omega)), cP.frame (fun j h1 h2 => hf1 j (by omega)), cK.frame (fun j h1 h2 => hf1 j (by omega)), cH.frame (fun j h1 h2 => hf1 j (by omega)), cX.frame (fun j h1 h2 => hf1 j (by omega))⟩
    have hC2 := LC_fr (g' := g2) hC1 (fun j h => hf2 j (by omega))
    have hM2 : LM E A g2 210 rw rl nm bk L cz co br py hz ta tb xz bx px P Q od tz bz := ⟨q, (hf2 210 (by omega)).trans m0, mq, ⟨N', hN', (hNx 0 (by decide)).trans hN0, (hNx 1 (by decide)).trans hN1⟩, mR.frame (hf2 _ (by omega)) (hf2 _ (by omega)) (hf2 _ (by omega)), mB.frame (fun j h1 h2 => hf2 j (by omega)), mC.frame (hf2 _ (by omega)) (hf2 _ (by omega)), mP.frame (hf2 _ (by omega)), mH.frame (hf2 _ (by omega)) (hf2 _ (by omega)), mX.frame (hf2 _ (by omega)) (hf2 _ (by omega)), ⟨f16, (hf2 _ (by omega)).trans m16⟩⟩
    exact kont g2 H2 locs2 hW2 ⟨_, _, _, _, _, _, _, _, _, _, _, _, _, _, _, _, _, _, _, _, hC2, hM2, hP⟩
set_option maxHeartbeats 4000000 in
set_option maxRecDepth 100000 in
theorem op_compare {p : Program} {l : Launch} {e : Env} {s : State} {m : MethodId} {args : Array Value} {below : List Frame} {meth : Method} {c : Code} {H : Heap} {locs : List Loc} {cells slots : Nat} {QQ : State → Prop} {E : wE} {A : Nat → Nat} {g : Nat → va_E} {ls : Array Slot} {b LL i : Nat} {xs : Nat → Int32} (X : CallFix p m c cL_law 4 s args wsL_law RL) (hcs : cells ≤ room_1.cells ∧ slots ≤ room_1.slots) (hS : SX (fun q => s.heap.size ≤ q) s b LL xs) (hW : wH E (fun q => s.heap.size ≤ q) A 227 s g H locs) (hI : LI E A g) (hi : i + 5 ≤ LL) (hl : lv_has ls 4 [(3, .int (iI (i : Int))), (2, .ref (A 210)), (1, .ref (A 0)), (0, .ref b)])
    (kont : ∀ (g' : Nat → va_E) (H' : Heap) (locs' : List Loc), wH E (fun q => s.heap.size ≤ q) A 227 s g' H' locs' → LI E A g' → W p l e room_1 s m args below meth c H' locs' cells slots QQ (F0 m 909 ls [])) : W p l e room_1 s m args below meth c H locs cells slots QQ (F0 m 853 ls []) := by
  have hb4 := hS.2.2.2
  obtain ⟨z1, hz1, hI1⟩ := i32_of (xs (i + 1))
  obtain ⟨z2, hz2, hI2⟩ := i32_of (xs (i + 2))
  obtain ⟨rw, rl, nm, bk, L, cz, co, br, py, hz, ta, tb, xz, bx, px, P, Q, od, tz, bz, hC, hM, hP⟩ := hI
  obtain ⟨c0, cR, cB, cT, cC, cP, cK, cH, cX⟩ := id hC
  refine lv_aload_n X.1 X.2.1 dL_law_853 rfl (lv_at hl 2 rfl) ?_
  refine lv_aload_n X.1 X.2.1 dL_law_854 rfl (lv_at hl 3 rfl) ?_
  refine lv_iload_n X.1 X.2.1 dL_law_855 rfl (lv_at hl 0 rfl) ?_
  refine x_iconst X dL_law_856 ?_
  refine x_iadd X dL_law_857 ?_
  refine x_sld X hW hS (i + 1) (by omega) (by omega) hz1 dL_law_858 ?_
  refine lv_aload_n X.1 X.2.1 dL_law_859 rfl (lv_at hl 3 rfl) ?_
  refine lv_iload_n X.1 X.2.1 dL_law_860 rfl (lv_at hl 0 rfl) ?_
  refine x_iconst X dL_law_861 ?_
  refine x_iadd X dL_law_862 ?_
  refine x_sld X hW hS (i + 2) (by omega) (by omega) hz2 dL_law_863 ?_
  refine x_ci (x_runV (As := [.int (iI z1), .int (iI z2)]) (k := 2) (rest := []) X hW (c_X10_compare l E A 227 H.size g 0 bk tz bz z1 z2 (by omega) c0 cT hI1 hI2 hP.1.1 hP.1.2) (by omega) c0 rfl gL_law_X10_compare rfl rfl rfl (by decide +kernel) ⟨(Nat.le_of_ble_eq_true rfl), (Nat.le_of_ble_eq_true rfl)⟩ rfl hl.1 rfl (Nat.le_of_ble_eq_true rfl) dL_law_864 hcs) hW (fun r1 g1 H locs hp1 hW => ?_)
  obtain ⟨e1, s1, hf1⟩ := hp1
  have hM1 := LM_fr (g' := g1) hM (fun j h => hf1 j (by omega))
  obtain ⟨q, m0, mq, mN, mR, mB, mC, mP, mH, mX, f16, m16⟩ := hM1
  obtain ⟨N, hN, hN0, hN1⟩ := id mN
  refine lv_aload_n X.1 X.2.1 dL_law_867 rfl (lv_at hl 1 rfl) ?_
  refine lv_aload_n X.1 X.2.1 dL_law_868 rfl (lv_at hl 3 rfl) ?_
  refine lv_iload_n X.1 X.2.1 dL_law_869 rfl (lv_at hl 0 rfl) ?_
  refine x_iconst X dL_law_870 ?_
  refine x_iadd X dL_law_871 ?_
  refine x_sld X hW hS (i + 1) (by omega) (by omega) hz1 dL_law_872 ?_
  refine lv_aload_n X.1 X.2.1 dL_law_873 rfl (lv_at hl 3 rfl) ?_
  refine lv_iload_n X.1 X.2.1 dL_law_874 rfl (lv_at hl 0 rfl) ?_
  refine x_iconst X dL_law_875 ?_
  refine x_iadd X dL_law_876 ?_
  refine x_sld X hW hS (i + 2) (by omega) (by omega) hz2 dL_law_877 ?_
  refine x_ci (x_runV (As := [.int (iI z1), .int (iI z2)]) (k := 2) (rest := [.int r1]) X hW (c_X11_compare l E A 227 H.size g1 210 q N z1 z2 tz bz (by omega) m0 hN hN0 hN1 (Nat.lt_of_le_of_lt hP.1.1 (by decide)) (Nat.lt_of_le_of_lt hP.1.2 (by decide)) hI1 hI2) (by omega) m0 rfl gL_law_X11_compare rfl rfl rfl (by decide +kernel) ⟨(Nat.le_of_ble_eq_true rfl), (Nat.le_of_ble_eq_true rfl)⟩ rfl hl.1 rfl (Nat.le_of_ble_eq_true rfl) dL_law_878 hcs) hW (fun r2 g2 H2 locs2 hp2 hW2 => ?_)
  obtain ⟨e2, ⟨N', hN', hNx⟩, hf2⟩ := hp2
  obtain rfl : r1 = r2 := e1.trans e2.symm
  refine lv_icmp_eq (tgt := 909) X.1 X.2.1 dL_law_881 (by decide) (fun c_ => ?_) (fun c_ => absurd rfl c_)
  have hC1 : LC E A g1 0 rw rl nm bk L cz co br py hz ta tb xz bx px P Q od tz bz := ⟨(hf1 0 (by omega)).trans c0, cR.frame (hf1 _ (by omega)) (fun j h1 h2 => hf1 j (by omega)), cB.frame (hf1 _ (by omega)) (fun j h1 h2 => hf1 j (by omega)), s1, cC.frame (fun j h1 h2 => hf1 j (by omega)), cP.frame (fun j h1 h2 => hf1 j (by omega)), cK.frame (fun j h1 h2 => hf1 j (by omega)), cH.frame (fun j h1 h2 => hf1 j (by omega)), cX.frame (fun j h1 h2 => hf1 j (by omega))⟩
  have hC2 := LC_fr (g' := g2) hC1 (fun j h => hf2 j (by omega))
  have hM2 : LM E A g2 210 rw rl nm bk L cz co br py hz ta tb xz bx px P Q od tz bz := ⟨q, (hf2 210 (by omega)).trans m0, mq, ⟨N', hN', (hNx 0 (by decide)).trans hN0, (hNx 1 (by decide)).trans hN1⟩, mR.frame (hf2 _ (by omega)) (hf2 _ (by omega)) (hf2 _ (by omega)), mB.frame (fun j h1 h2 => hf2 j (by omega)), mC.frame (hf2 _ (by omega)) (hf2 _ (by omega)), mP.frame (hf2 _ (by omega)), mH.frame (hf2 _ (by omega)) (hf2 _ (by omega)), mX.frame (hf2 _ (by omega)) (hf2 _ (by omega)), ⟨f16, (hf2 _ (by omega)).trans m16⟩⟩
  exact kont g2 H2 locs2 hW2 ⟨_, _, _, _, _, _, _, _, _, _, _, _, _, _, _, _, _, _, _, _, hC2, hM2, hP⟩
