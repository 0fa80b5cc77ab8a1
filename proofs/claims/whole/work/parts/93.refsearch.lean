theorem cmpI_le {a b : Int} (h : (if a < b then (-1 : Int) else if a = b then 0 else 1) ≤ 0) : ¬ b < a := by
  intro hc
  rw [if_neg (by omega), if_neg (by omega)] at h
  exact absurd h (by decide)
theorem cmpI_gt {a b : Int} (h : ¬ (if a < b then (-1 : Int) else if a = b then 0 else 1) ≤ 0) : b < a := by
  apply Decidable.byContradiction
  intro hc
  by_cases e : a < b
  · rw [if_pos e] at h; exact h (by decide)
  · rw [if_neg e, if_pos (by omega)] at h; exact h (by decide)
theorem cd_rng {Lx : Nat → List (Nat × Nat)} {px : Nat → Nat} {xz : Nat} {V : Nat → Nat → Int} (hV : ∀ st x, 0 ≤ V st x ∧ V st x ≤ 10 ^ 30) {st x i u : Nat} (hp : px i ≤ 1000) (hP : prS Lx st xz ≤ 10 ^ 24) (hw : ∀ k, k < u → ((Lx i).getD k (0, 0)).2 ≤ 1000) (hu : u ≤ 8) : -(10 ^ 40) ≤ cdT Lx px xz V st x i u ∧ cdT Lx px xz V st x i u ≤ 10 ^ 40 := by
  have h1 := smZ_rng (f := fun k => V (st + 2 ^ i) (if x < ((Lx i).getD k (0, 0)).1 then ((Lx i).getD k (0, 0)).1 else x) * ((((Lx i).getD k (0, 0)).2 : Nat) : Int)) (M := 10 ^ 33) (by decide) u (fun k hk => w_rng hV _ _ (hw k hk))
  have h2 := mul_rng (a := ((prS Lx st xz : Nat) : Int)) (b := -((px i : Nat) : Int)) (10 ^ 24) 1000 (by omega) (by omega) (by omega) (by omega)
  have h3 : (u : Int) * 10 ^ 33 ≤ 8 * 10 ^ 33 := Int.mul_le_mul_of_nonneg_right (by omega) (by decide)
  unfold cdT
  omega

set_option maxHeartbeats 4000000 in
set_option maxRecDepth 100000 in
/-- search -/
theorem c_X11_search (l : Launch) (E : wE) (A : Nat → Nat) (n sz : Nat) (g : Nat → va_E) (i : Nat) (qo : Nat → Int) (N : Nat → Int) (bk : Nat) (L : Nat → List (Nat × Nat)) (xz : Nat) (bx px : Nat → Nat) (V : Nat → Nat → Int) (hi : i + 16 < n) (hOq : g i = mO A i qo) (hN0 : MN E A g i N) (hB : BooksM E A g i bk L) (hq3o : qo 3 = (xz : Int)) (hX : BoxM E A g i bk xz bx px) (h16q : ∃ f : Nat → Int32, g (i + 16) = aI E 50 f) (hVr : ∀ st x, 0 ≤ V st x ∧ V st x ≤ 10 ^ 30) (hVb : ∀ st, st < 2 ^ xz → ∀ x, x ≤ 1000 → V st x = blM (LkM L bx) px xz V st x xz) : Met l yX11_search wsX11_search ({ frames := 7, cells := 0, slots := 0, locals := 260 } : Room) (va_Pc [.ref (A (i))] (wPre E A n sz g)) (va_Qv (fun g' => MR E A g' i (rdT (V 0 0) (prT (LkM L bx) xz)) (rdB (V 0 0) (prT (LkM L bx) xz)) ∧ (∃ v : Int, g' i = mO A i (va_up qo 4 v)) ∧ (∃ f : Nat → Int32, g' (i + 16) = aI E 50 f) ∧ ∀ j, (j ≠ i ∧ j ≠ i + 1 ∧ j ≠ i + 16) → g' j = g j) (wAt E A n) (wF A n sz)) 0 0 (wF A n sz) := by
  refine x_met (cc := cX11_search) (maxL := 8) (ret := none) [.ref (A (i))] (by decide) rfl (Nat.le_of_ble_eq_true rfl) ?_
  intro p_ e_ s_ m_ below meth c_ ls X hr hlk hnm hsz hW hl
  have hl : lv_has ls 8 [(0, .ref (A (i)))] := hl
  have lk_0 : ∀ w ∈ wsX110, w ∈ wsX11_search := by decide +kernel
  have lk_1 : Cond.fieldLink RX11 175 (TX11 20).1 (TX11 20).2.1 (TX11 20).2.2.1 ∈ wsX11_search := by decide +kernel
  have lk_2 : Cond.fieldLink RX11 172 (TX11 16).1 (TX11 16).2.1 (TX11 16).2.2.1 ∈ wsX11_search := by decide +kernel
  have lk_3 : Cond.fieldLink RX11 33 (TX11 8).1 (TX11 8).2.1 (TX11 8).2.2.1 ∈ wsX11_search := by decide +kernel
  have lk_4 : Cond.fieldLink RX11 51 (TX11 17).1 (TX11 17).2.1 (TX11 17).2.2.1 ∈ wsX11_search := by decide +kernel
  have lk_5 : Cond.fieldLink RX11 57 (TX11 19).1 (TX11 19).2.1 (TX11 19).2.2.1 ∈ wsX11_search := by decide +kernel
  have lk_6 : Cond.fieldLink RX11 54 (TX11 18).1 (TX11 18).2.1 (TX11 18).2.2.1 ∈ wsX11_search := by decide +kernel
  have lk_7 : Cond.fieldLink RX11 24 (TX11 5).1 (TX11 5).2.1 (TX11 5).2.2.1 ∈ wsX11_search := by decide +kernel
  have lk_8 : Cond.fieldLink RX11 27 (TX11 6).1 (TX11 6).2.1 (TX11 6).2.2.1 ∈ wsX11_search := by decide +kernel
  have lk_9 : Cond.methodLink RX11 143 Lib.Math.max.name ∈ wsX11_search := by decide +kernel
  have lk_10 : Cond.static Lib.Math.max.name ∈ wsX11_search := by decide +kernel
  have lk_11 : Cond.initialized "java/lang/Math" ∈ wsX11_search := by decide +kernel
  have lk_12 : Cond.code Lib.Math.max.name Lib.Math.max.code 2 (some .int) ∈ wsX11_search := by decide +kernel
  have lk_13 : Cond.fieldLink RX11 30 (TX11 7).1 (TX11 7).2.1 (TX11 7).2.2.1 ∈ wsX11_search := by decide +kernel
  have hO : g i = .inr (11, [.ref (A (i + 1)), .ref (A (i + 2)), .ref (A (i + 3)), .ref (A (i + 4)), .int (iI (qo 0)), .ref (A (i + 5)), .ref (A (i + 6)), .ref (A (i + 7)), .ref (A (i + 8)), .int (iI (qo 1)), .ref (A (i + 9)), .ref (A (i + 10)), .ref (A (i + 11)), .int (iI (qo 2)), .ref (A (i + 12)), .ref (A (i + 13)), .int (iI (qo 3)), .ref (A (i + 14)), .ref (A (i + 15)), .ref (A (i + 16)), .int (iI (qo 4))]) := hOq
  obtain ⟨go, hgo⟩ : ∃ go : Nat → va_E, go = g := ⟨_, rfl⟩
  have hBo := hB
  obtain ⟨f5, f6, f7, f8, h5, h6, h7, h8, hbk, hbv⟩ := id hB
  have h5o := h5
  have h6o := h6
  have h7o := h7
  have h8o := h8
  have hXo := hX
  obtain ⟨fx, fp, h14, h15, hc6, hxv⟩ := id hX
  have h14o := h14
  have h15o := h15
  obtain ⟨fh0, h16⟩ := h16q
  have hx6 : xz ≤ 6 := hc6
  have hok0 : ∀ k, k < xz → bOK (LkM L bx k) := fun k hk => by
    have hk2 := (hxv k hk).1
    exact ⟨(hbv _ hk2).1, fun u hu => ((hbv _ hk2).2.2.2.2 u hu).2.2⟩
  have hcap0 : ∀ k, k < xz → bE (LkM L bx k) (fun _ => 1) ≤ 8000 := fun k hk => bOK_tot (hok0 k hk)
  have hpos0 : ∀ k, k < xz → 0 < bE (LkM L bx k) (fun _ => 1) := fun k hk => (hbv _ (hxv k hk).1).2.2.2.1
  rw [← hgo] at h5o
  rw [← hgo] at h6o
  rw [← hgo] at h7o
  rw [← hgo] at h8o
  rw [← hgo] at h14o
  rw [← hgo] at h15o
  rw [← hgo] at hN0
  refine lv_aload_n X.1 X.2.1 dX11_search_0 rfl (lv_at hl 0 rfl) ?_
  refine x_iconst X dX11_search_1 ?_
  refine x_put (C := RX11) (T := TX11) (N := 21) X hW (by omega) hO rfl lk_0 tyX11 tyX11_ok nmX11 20 (by decide) lk_1 rfl rfl rfl (Nat.le_of_ble_eq_true rfl) dX11_search_2 (fun g_2 H locs hg_2 hW => ?_)
  have h5 : g_2 (i + 5) = aI E 16 f5 := by rw [hg_2, va_up_ne _ _ (by omega)]; exact h5
  have h6 : g_2 (i + 6) = aI E 128 f6 := by rw [hg_2, va_up_ne _ _ (by omega)]; exact h6
  have h7 : g_2 (i + 7) = aI E 128 f7 := by rw [hg_2, va_up_ne _ _ (by omega)]; exact h7
  have h8 : g_2 (i + 8) = aI E 16 f8 := by rw [hg_2, va_up_ne _ _ (by omega)]; exact h8
  have h14 : g_2 (i + 14) = aI E 6 fx := by rw [hg_2, va_up_ne _ _ (by omega)]; exact h14
  have h15 : g_2 (i + 15) = aI E 6 fp := by rw [hg_2, va_up_ne _ _ (by omega)]; exact h15
  have h16 : g_2 (i + 16) = aI E 50 fh0 := by rw [hg_2, va_up_ne _ _ (by omega)]; exact h16
  have hO : g_2 i = .inr (11, [.ref (A (i + 1)), .ref (A (i + 2)), .ref (A (i + 3)), .ref (A (i + 4)), .int (iI (qo 0)), .ref (A (i + 5)), .ref (A (i + 6)), .ref (A (i + 7)), .ref (A (i + 8)), .int (iI (qo 1)), .ref (A (i + 9)), .ref (A (i + 10)), .ref (A (i + 11)), .int (iI (qo 2)), .ref (A (i + 12)), .ref (A (i + 13)), .int (iI (qo 3)), .ref (A (i + 14)), .ref (A (i + 15)), .ref (A (i + 16)), .int (iI (0))]) := by rw [hg_2]; exact va_up_self _ _ _
  refine x_iconst X dX11_search_5 ?_
  refine x_seti (((0 : Nat) : Int)) rfl ?_
  refine lv_istore_n (lv' := [(1, .int (iI (((0 : Nat) : Int)))), (0, .ref (A (i)))]) X.1 X.2.1 dX11_search_6 rfl hl (by decide) rfl (fun ls hl => ?_)
  have loop_7 : ∀ (fuel : Nat) (w : Nat) (hc : Nat) (fh : Nat → Int32) (hd : Nat → Nat) (g1 : Nat → va_E) (H : Heap) (locs : List Loc) (ls : Array Slot), (1001 - w) < fuel → (w ≤ 1001) → (HadV (LkM L bx) xz w hc fh hd) → (g1 i = .inr (11, [.ref (A (i + 1)), .ref (A (i + 2)), .ref (A (i + 3)), .ref (A (i + 4)), .int (iI (qo 0)), .ref (A (i + 5)), .ref (A (i + 6)), .ref (A (i + 7)), .ref (A (i + 8)), .int (iI (qo 1)), .ref (A (i + 9)), .ref (A (i + 10)), .ref (A (i + 11)), .int (iI (qo 2)), .ref (A (i + 12)), .ref (A (i + 13)), .int (iI (qo 3)), .ref (A (i + 14)), .ref (A (i + 15)), .ref (A (i + 16)), .int (iI (((hc : Nat) : Int)))])) → (g1 (i + 16) = aI E 50 fh) → (∀ j, (j ≠ i ∧ j ≠ i + 16) → g1 j = go j) → wH E (wF A n sz) A n s_ g1 H locs → lv_has ls 8 [(0, .ref (A (i))), (1, .int (iI (((w : Nat) : Int))))] → W p_ l e_ ({ frames := 7, cells := 0, slots := 0, locals := 260 } : Room) s_ m_ [.ref (A (i))].toArray below meth c_ H locs 0 0 (MQ below (va_Qv (fun g' => MR E A g' i (rdT (V 0 0) (prT (LkM L bx) xz)) (rdB (V 0 0) (prT (LkM L bx) xz)) ∧ (∃ v : Int, g' i = mO A i (va_up qo 4 v)) ∧ (∃ f : Nat → Int32, g' (i + 16) = aI E 50 f) ∧ ∀ j, (j ≠ i ∧ j ≠ i + 1 ∧ j ≠ i + 16) → g' j = g j) (wAt E A n) (wF A n sz)) [.ref (A (i))].toArray s_ 0 0 (wF A n sz)) (F0 m_ 7 ls []) := by
    intro fuel
    induction fuel with
    | zero => intro w hc fh hd g1 H locs ls hm; exact absurd hm (Nat.not_lt_zero _)
    | succ fuel ih_7 =>
      intro w hc fh hd g1 H locs ls hm hw hHad hO h16 hf1 hW hl
      have h5 : g1 (i + 5) = aI E 16 f5 := (hf1 _ (by omega)).trans h5o
      have h6 : g1 (i + 6) = aI E 128 f6 := (hf1 _ (by omega)).trans h6o
      have h7 : g1 (i + 7) = aI E 128 f7 := (hf1 _ (by omega)).trans h7o
      have h8 : g1 (i + 8) = aI E 16 f8 := (hf1 _ (by omega)).trans h8o
      have h14 : g1 (i + 14) = aI E 6 fx := (hf1 _ (by omega)).trans h14o
      have h15 : g1 (i + 15) = aI E 6 fp := (hf1 _ (by omega)).trans h15o
      refine lv_iload_n X.1 X.2.1 dX11_search_7 rfl (lv_at hl 1 rfl) ?_
      refine x_sipush X (by decide) dX11_search_8 ?_
      refine x_icmp_gt (tgt := 134) X ⟨by omega, by omega⟩ ⟨by decide, by decide⟩ dX11_search_11 (by decide) (fun b_11 => ?_) (fun b_11 => ?_)
      · obtain ⟨gb, hg9⟩ : ∃ g2 : Nat → va_E, g2 = g1 := ⟨_, rfl⟩
        obtain ⟨q, hq9⟩ : ∃ q2 : Nat → Int, q2 = va_up qo 4 ((hc : Nat) : Int) := ⟨_, rfl⟩
        have hO : g1 i = .inr (11, [.ref (A (i + 1)), .ref (A (i + 2)), .ref (A (i + 3)), .ref (A (i + 4)), .int (iI (q 0)), .ref (A (i + 5)), .ref (A (i + 6)), .ref (A (i + 7)), .ref (A (i + 8)), .int (iI (q 1)), .ref (A (i + 9)), .ref (A (i + 10)), .ref (A (i + 11)), .int (iI (q 2)), .ref (A (i + 12)), .ref (A (i + 13)), .int (iI (q 3)), .ref (A (i + 14)), .ref (A (i + 15)), .ref (A (i + 16)), .int (iI (q 4))]) := by rw [hq9]; exact hO
        have hOg : gb i = .inr (11, [.ref (A (i + 1)), .ref (A (i + 2)), .ref (A (i + 3)), .ref (A (i + 4)), .int (iI (q 0)), .ref (A (i + 5)), .ref (A (i + 6)), .ref (A (i + 7)), .ref (A (i + 8)), .int (iI (q 1)), .ref (A (i + 9)), .ref (A (i + 10)), .ref (A (i + 11)), .int (iI (q 2)), .ref (A (i + 12)), .ref (A (i + 13)), .int (iI (q 3)), .ref (A (i + 14)), .ref (A (i + 15)), .ref (A (i + 16)), .int (iI (q 4))]) := by rw [hg9]; exact hO
        have hfr : ∀ j, j ≠ i + 1 → g1 j = gb j := fun j _ => by rw [hg9]
        have hq3 : q 3 = (xz : Int) := by rw [hq9]; exact hq3o
        have hq4 : q 4 = ((hc : Nat) : Int) := by rw [hq9]; rfl
        have hN : MN E A g1 i N := MN_frame (g := go) hN0 (hf1 (i + 1) ⟨by omega, by omega⟩)
        have hw9 : w = 1001 := by omega
        rw [hw9] at hHad
        have h5o : gb (i + 5) = aI E 16 f5 := by rw [hg9]; exact h5
        have h6o : gb (i + 6) = aI E 128 f6 := by rw [hg9]; exact h6
        have h7o : gb (i + 7) = aI E 128 f7 := by rw [hg9]; exact h7
        have h8o : gb (i + 8) = aI E 16 f8 := by rw [hg9]; exact h8
        have h14o : gb (i + 14) = aI E 6 fx := by rw [hg9]; exact h14
        have h15o : gb (i + 15) = aI E 6 fp := by rw [hg9]; exact h15
        have h16o : gb (i + 16) = aI E 50 fh := by rw [hg9]; exact h16
        have hc49 := Nat.le_trans hHad.2.2.2.1 (prN_le (Lx := (LkM L bx)) (xz := xz) (fun k hk => (hok0 k hk).1) 1001)
        have h64 := p64 xz (by omega)
        have hadr : ∀ t, t < hc → fh t = iI ((hd t : Nat) : Int) ∧ hd t ≤ 1000 := fun t ht => ⟨(hHad.1 t ht).1, by have := (hHad.1 t ht).2; omega⟩
        refine x_iconst X dX11_search_134 ?_
        refine lv_aload_n X.1 X.2.1 dX11_search_135 rfl (lv_at hl 0 rfl) ?_
        refine x_get (C := RX11) (T := TX11) (N := 21) X hW (by omega) hO rfl lk_0 16 (by decide) lk_2 rfl dX11_search_136 ?_
        refine x_seti ((xz : Int)) hq3 ?_
        refine lv_ishl X.1 X.2.1 dX11_search_139 ?_
        refine x_topi (iI (((2 ^ xz : Nat) : Int))) (sl_bit xz (by omega)) ?_
        refine x_iconst X dX11_search_140 ?_
        refine x_isub X dX11_search_141 ?_
        refine lv_istore_n (lv' := [(1, .int (iI ((((2 ^ xz : Nat) : Int)) - 1))), (0, .ref (A (i)))]) X.1 X.2.1 dX11_search_142 rfl hl (by decide) rfl (fun ls hl => ?_)
        refine lv_iload_n X.1 X.2.1 dX11_search_143 rfl (lv_at hl 0 rfl) ?_
        refine lv_istore_n (lv' := [(2, .int (iI ((((2 ^ xz : Nat) : Int)) - 1))), (1, .int (iI ((((2 ^ xz : Nat) : Int)) - 1))), (0, .ref (A (i)))]) X.1 X.2.1 dX11_search_144 rfl hl (by decide) rfl (fun ls hl => ?_)
        have loop_145 : ∀ (fuel : Nat) (sn : Nat) (N1 : Nat → Int) (g4 : Nat → va_E) (H : Heap) (locs : List Loc) (ls : Array Slot), (sn) < fuel → (sn ≤ 2 ^ xz) → (MN E A g4 i N1) → (∀ s2, sn ≤ s2 → s2 < 2 ^ xz → ∀ h, h < hc → N1 (10 + 50 * s2 + h) = V s2 (hd h)) → (∀ j, j ≠ i + 1 → g4 j = gb j) → wH E (wF A n sz) A n s_ g4 H locs → lv_has ls 8 [(0, .ref (A (i))), (2, .int (iI ((sn : Int) - 1)))] → W p_ l e_ ({ frames := 7, cells := 0, slots := 0, locals := 260 } : Room) s_ m_ [.ref (A (i))].toArray below meth c_ H locs 0 0 (MQ below (va_Qv (fun g' => MR E A g' i (rdT (V 0 0) (prT (LkM L bx) xz)) (rdB (V 0 0) (prT (LkM L bx) xz)) ∧ (∃ v : Int, g' i = mO A i (va_up qo 4 v)) ∧ (∃ f : Nat → Int32, g' (i + 16) = aI E 50 f) ∧ ∀ j, (j ≠ i ∧ j ≠ i + 1 ∧ j ≠ i + 16) → g' j = g j) (wAt E A n) (wF A n sz)) [.ref (A (i))].toArray s_ 0 0 (wF A n sz)) (F0 m_ 145 ls []) := by
          intro fuel
          induction fuel with
          | zero => intro sn N1 g4 H locs ls hm; exact absurd hm (Nat.not_lt_zero _)
          | succ fuel ih_145 =>
            intro sn N1 g4 H locs ls hm hsn hN hT hfr hW hl
            have hO : g4 i = .inr (11, [.ref (A (i + 1)), .ref (A (i + 2)), .ref (A (i + 3)), .ref (A (i + 4)), .int (iI (q 0)), .ref (A (i + 5)), .ref (A (i + 6)), .ref (A (i + 7)), .ref (A (i + 8)), .int (iI (q 1)), .ref (A (i + 9)), .ref (A (i + 10)), .ref (A (i + 11)), .int (iI (q 2)), .ref (A (i + 12)), .ref (A (i + 13)), .int (iI (q 3)), .ref (A (i + 14)), .ref (A (i + 15)), .ref (A (i + 16)), .int (iI (q 4))]) := (hfr _ (by omega)).trans hOg
            have h5 : g4 (i + 5) = aI E 16 f5 := (hfr _ (by omega)).trans h5o
            have h6 : g4 (i + 6) = aI E 128 f6 := (hfr _ (by omega)).trans h6o
            have h7 : g4 (i + 7) = aI E 128 f7 := (hfr _ (by omega)).trans h7o
            have h8 : g4 (i + 8) = aI E 16 f8 := (hfr _ (by omega)).trans h8o
            have h14 : g4 (i + 14) = aI E 6 fx := (hfr _ (by omega)).trans h14o
            have h15 : g4 (i + 15) = aI E 6 fp := (hfr _ (by omega)).trans h15o
            have h16 : g4 (i + 16) = aI E 50 fh := (hfr _ (by omega)).trans h16o
            refine lv_iload_n X.1 X.2.1 dX11_search_145 rfl (lv_at hl 1 rfl) ?_
            refine x_if_lt (tgt := 410) X ⟨by omega, by omega⟩ dX11_search_146 (by decide) (fun b_146 => ?_) (fun b_146 => ?_)
            · have hs0 : sn = 0 := by omega
              have v_10 : N1 10 = V 0 0 := by have h9 := hT 0 (by omega) (Nat.pow_pos (by decide)) 0 (hHad.2.2.2.2 (by omega)).1; rw [(hHad.2.2.2.2 (by omega)).2] at h9; exact h9
              refine lv_aload_n X.1 X.2.1 dX11_search_410 rfl (lv_at hl 0 rfl) ?_
              refine x_sipush X (by decide) dX11_search_411 ?_
              refine x_lconst X 1 (by decide) dX11_search_414 ?_
              refine x_cv (x_runV (k := 2) (As := [.int (iI (3510)), .long (lI (1))]) (rest := []) X hW (c_X11_set l E A n _ g4 i (3510) q N1 (1) hi hO (by omega) hN (by decide) (by decide)) (by omega) hO rfl gX11_search_X11_set rfl rfl rfl (by decide +kernel) ⟨by decide, by decide⟩ rfl hl.1 rfl (Nat.le_of_ble_eq_true rfl) dX11_search_415 ⟨Nat.zero_le _, Nat.zero_le _⟩) hW (fun g_415 H locs hp_415 hW => ?_)
              obtain ⟨hN, hf_415⟩ := hp_415
              obtain ⟨N_415, hN_415⟩ : ∃ N9 : Nat → Int, N9 = va_up N1 3510 (1) := ⟨_, rfl⟩
              rw [← hN_415] at hN
              have hO : g_415 i = .inr (11, [.ref (A (i + 1)), .ref (A (i + 2)), .ref (A (i + 3)), .ref (A (i + 4)), .int (iI (q 0)), .ref (A (i + 5)), .ref (A (i + 6)), .ref (A (i + 7)), .ref (A (i + 8)), .int (iI (q 1)), .ref (A (i + 9)), .ref (A (i + 10)), .ref (A (i + 11)), .int (iI (q 2)), .ref (A (i + 12)), .ref (A (i + 13)), .int (iI (q 3)), .ref (A (i + 14)), .ref (A (i + 15)), .ref (A (i + 16)), .int (iI (q 4))]) := by rw [hf_415 _ (by omega)]; exact hO
              have h5 : g_415 (i + 5) = aI E 16 f5 := by rw [hf_415 _ (by omega)]; exact h5
              have h6 : g_415 (i + 6) = aI E 128 f6 := by rw [hf_415 _ (by omega)]; exact h6
              have h7 : g_415 (i + 7) = aI E 128 f7 := by rw [hf_415 _ (by omega)]; exact h7
              have h8 : g_415 (i + 8) = aI E 16 f8 := by rw [hf_415 _ (by omega)]; exact h8
              have h14 : g_415 (i + 14) = aI E 6 fx := by rw [hf_415 _ (by omega)]; exact h14
              have h15 : g_415 (i + 15) = aI E 6 fp := by rw [hf_415 _ (by omega)]; exact h15
              have h16 : g_415 (i + 16) = aI E 50 fh := by rw [hf_415 _ (by omega)]; exact h16
              have v_3510 : N_415 3510 = 1 := by rw [hN_415, va_up_self]
              have v_10 : N_415 10 = V 0 0 := by rw [hN_415, va_up_ne _ _ (by omega)]; exact v_10
              have hfr : ∀ j, j ≠ i + 1 → g_415 j = gb j := fun j hj => (hf_415 j hj).trans (hfr j hj)
              refine x_iconst X dX11_search_418 ?_
              refine x_seti (((0 : Nat) : Int)) rfl ?_
              refine lv_istore_n (lv' := [(2, .int (iI (((0 : Nat) : Int)))), (0, .ref (A (i)))]) X.1 X.2.1 dX11_search_419 rfl hl (by decide) rfl (fun ls hl => ?_)
              have loop_420 : ∀ (fuel : Nat) (ii : Nat) (N6 : Nat → Int) (g9 : Nat → va_E) (H : Heap) (locs : List Loc) (ls : Array Slot), (xz - ii) < fuel → (ii ≤ xz) → (MN E A g9 i N6) → (N6 10 = V 0 0) → (N6 3510 = ((prT (LkM L bx) ii : Nat) : Int)) → (∀ j, j ≠ i + 1 → g9 j = gb j) → wH E (wF A n sz) A n s_ g9 H locs → lv_has ls 8 [(0, .ref (A (i))), (2, .int (iI (((ii : Nat) : Int))))] → W p_ l e_ ({ frames := 7, cells := 0, slots := 0, locals := 260 } : Room) s_ m_ [.ref (A (i))].toArray below meth c_ H locs 0 0 (MQ below (va_Qv (fun g' => MR E A g' i (rdT (V 0 0) (prT (LkM L bx) xz)) (rdB (V 0 0) (prT (LkM L bx) xz)) ∧ (∃ v : Int, g' i = mO A i (va_up qo 4 v)) ∧ (∃ f : Nat → Int32, g' (i + 16) = aI E 50 f) ∧ ∀ j, (j ≠ i ∧ j ≠ i + 1 ∧ j ≠ i + 16) → g' j = g j) (wAt E A n) (wF A n sz)) [.ref (A (i))].toArray s_ 0 0 (wF A n sz)) (F0 m_ 420 ls []) := by
                intro fuel
                induction fuel with
                | zero => intro ii N6 g9 H locs ls hm; exact absurd hm (Nat.not_lt_zero _)
                | succ fuel ih_420 =>
                  intro ii N6 g9 H locs ls hm hii hN v_10 v_3510 hfr hW hl
                  have hO : g9 i = .inr (11, [.ref (A (i + 1)), .ref (A (i + 2)), .ref (A (i + 3)), .ref (A (i + 4)), .int (iI (q 0)), .ref (A (i + 5)), .ref (A (i + 6)), .ref (A (i + 7)), .ref (A (i + 8)), .int (iI (q 1)), .ref (A (i + 9)), .ref (A (i + 10)), .ref (A (i + 11)), .int (iI (q 2)), .ref (A (i + 12)), .ref (A (i + 13)), .int (iI (q 3)), .ref (A (i + 14)), .ref (A (i + 15)), .ref (A (i + 16)), .int (iI (q 4))]) := (hfr _ (by omega)).trans hOg
                  have h5 : g9 (i + 5) = aI E 16 f5 := (hfr _ (by omega)).trans h5o
                  have h6 : g9 (i + 6) = aI E 128 f6 := (hfr _ (by omega)).trans h6o
                  have h7 : g9 (i + 7) = aI E 128 f7 := (hfr _ (by omega)).trans h7o
                  have h8 : g9 (i + 8) = aI E 16 f8 := (hfr _ (by omega)).trans h8o
                  have h14 : g9 (i + 14) = aI E 6 fx := (hfr _ (by omega)).trans h14o
                  have h15 : g9 (i + 15) = aI E 6 fp := (hfr _ (by omega)).trans h15o
                  have h16 : g9 (i + 16) = aI E 50 fh := (hfr _ (by omega)).trans h16o
                  refine lv_iload_n X.1 X.2.1 dX11_search_420 rfl (lv_at hl 1 rfl) ?_
                  refine lv_aload_n X.1 X.2.1 dX11_search_421 rfl (lv_at hl 0 rfl) ?_
                  refine x_get (C := RX11) (T := TX11) (N := 21) X hW (by omega) hO rfl lk_0 16 (by decide) lk_2 rfl dX11_search_422 ?_
                  refine x_seti ((xz : Int)) hq3 ?_
                  refine x_icmp_ge (tgt := 453) X ⟨by omega, by omega⟩ ⟨by omega, by omega⟩ dX11_search_425 (by decide) (fun b_425 => ?_) (fun b_425 => ?_)
                  · rw [show ii = xz from by omega] at v_3510
                    have hpl := prT_le (Lk := (LkM L bx)) hcap0 xz (Nat.le_refl _)
                    have hp24 : 8000 ^ xz ≤ 8000 ^ 6 := Nat.pow_le_pow_right (by decide) (by omega)
                    have hpp : 0 < prT (LkM L bx) xz := pr_pos xz hpos0
                    have hv9 := hVr 0 0
                    refine lv_aload_n X.1 X.2.1 dX11_search_453 rfl (lv_at hl 0 rfl) ?_
                    refine x_bipush X (by decide) dX11_search_454 ?_
                    refine x_sipush X (by decide) dX11_search_456 ?_
                    refine x_cv (x_runV (k := 2) (As := [.int (iI (10)), .int (iI (3510))]) (rest := []) X hW (c_X11_result l E A n _ g9 i (10) (3510) q N6 (V 0 0) (prT (LkM L bx) xz) hi hO (by omega) (by omega) (by omega) (by omega) hN v_10 v_3510 hpp (by omega) (by omega) (by omega)) (by omega) hO rfl gX11_search_X11_result rfl rfl rfl (by decide +kernel) ⟨by decide, by decide⟩ rfl hl.1 rfl (Nat.le_of_ble_eq_true rfl) dX11_search_459 ⟨Nat.zero_le _, Nat.zero_le _⟩) hW (fun g_459 H locs hp_459 hW => ?_)
                    obtain ⟨⟨N_459, hN, v_0, v_1, ho8_459⟩, hf_459⟩ := hp_459
                    have hfr : ∀ j, j ≠ i + 1 → g_459 j = gb j := fun j hj => (hf_459 j hj).trans (hfr j hj)
                    have hO : g_459 i = .inr (11, [.ref (A (i + 1)), .ref (A (i + 2)), .ref (A (i + 3)), .ref (A (i + 4)), .int (iI (q 0)), .ref (A (i + 5)), .ref (A (i + 6)), .ref (A (i + 7)), .ref (A (i + 8)), .int (iI (q 1)), .ref (A (i + 9)), .ref (A (i + 10)), .ref (A (i + 11)), .int (iI (q 2)), .ref (A (i + 12)), .ref (A (i + 13)), .int (iI (q 3)), .ref (A (i + 14)), .ref (A (i + 15)), .ref (A (i + 16)), .int (iI (q 4))]) := by rw [hf_459 _ (by omega)]; exact hO
                    have h5 : g_459 (i + 5) = aI E 16 f5 := by rw [hf_459 _ (by omega)]; exact h5
                    have h6 : g_459 (i + 6) = aI E 128 f6 := by rw [hf_459 _ (by omega)]; exact h6
                    have h7 : g_459 (i + 7) = aI E 128 f7 := by rw [hf_459 _ (by omega)]; exact h7
                    have h8 : g_459 (i + 8) = aI E 16 f8 := by rw [hf_459 _ (by omega)]; exact h8
                    have h14 : g_459 (i + 14) = aI E 6 fx := by rw [hf_459 _ (by omega)]; exact h14
                    have h15 : g_459 (i + 15) = aI E 6 fp := by rw [hf_459 _ (by omega)]; exact h15
                    have h16 : g_459 (i + 16) = aI E 50 fh := by rw [hf_459 _ (by omega)]; exact h16
                    exact x_vret X hr hlk hW (⟨⟨_, hN, v_0, v_1⟩, ⟨((hc : Nat) : Int), by rw [← hq9]; exact hO⟩, ⟨_, h16⟩, fun j hj => (hfr j hj.2.1).trans (by rw [hg9, hf1 j ⟨hj.1, hj.2.2⟩, hgo])⟩) dX11_search_462
                  · obtain ⟨hx1, hx2, hx3, hx4⟩ := hxv ii (by omega)
                    obtain ⟨hb1, hb5, hb8, hb9, hbq⟩ := hbv (bx ii) hx1
                    have ht8 : bE (L (bx ii)) (fun _ => 1) ≤ 8000 := hcap0 ii (by omega)
                    have hps : prT (LkM L bx) ii * bE (L (bx ii)) (fun _ => 1) = prT (LkM L bx) (ii + 1) := rfl
                    have hpl := prT_le (Lk := (LkM L bx)) hcap0 (ii + 1) (by omega)
                    have hp24 : 8000 ^ (ii + 1) ≤ 8000 ^ 6 := Nat.pow_le_pow_right (by decide) (by omega)
                    refine lv_aload_n X.1 X.2.1 dX11_search_428 rfl (lv_at hl 0 rfl) ?_
                    refine x_sipush X (by decide) dX11_search_429 ?_
                    refine lv_aload_n X.1 X.2.1 dX11_search_432 rfl (lv_at hl 0 rfl) ?_
                    refine x_get (C := RX11) (T := TX11) (N := 21) X hW (by omega) hO rfl lk_0 8 (by decide) lk_3 rfl dX11_search_433 ?_
                    refine lv_aload_n X.1 X.2.1 dX11_search_436 rfl (lv_at hl 0 rfl) ?_
                    refine x_get (C := RX11) (T := TX11) (N := 21) X hW (by omega) hO rfl lk_0 17 (by decide) lk_4 rfl dX11_search_437 ?_
                    refine lv_iload_n X.1 X.2.1 dX11_search_440 rfl (lv_at hl 1 rfl) ?_
                    refine x_iald X hW (by omega) h14 (v := iI (((bx ii : Nat) : Int))) ii (by omega) (by omega) (by decide) hx3 dX11_search_441 ?_
                    refine x_iald X hW (by omega) h8 (v := iI (((bE (L (bx ii)) (fun _ => 1) : Nat) : Int))) (bx ii) (by omega) (by omega) (by decide) hb8 dX11_search_442 ?_
                    refine x_i2l X ⟨by omega, by omega⟩ dX11_search_443 ?_
                    refine x_cv (x_runV (k := 2) (As := [.int (iI (3510)), .long (lI (((bE (L (bx ii)) (fun _ => 1) : Nat) : Int)))]) (rest := []) X hW (c_X11_times l E A n _ g9 i (3510) q N6 (((bE (L (bx ii)) (fun _ => 1) : Nat) : Int)) hi hO (by omega) hN (by omega) (by omega) (by rw [v_3510, ← Int.natCast_mul, hps]; omega) (by rw [v_3510, ← Int.natCast_mul, hps]; omega)) (by omega) hO rfl gX11_search_X11_times rfl rfl rfl (by decide +kernel) ⟨by decide, by decide⟩ rfl hl.1 rfl (Nat.le_of_ble_eq_true rfl) dX11_search_444 ⟨Nat.zero_le _, Nat.zero_le _⟩) hW (fun g_444 H locs hp_444 hW => ?_)
                    obtain ⟨hN, hf_444⟩ := hp_444
                    obtain ⟨N_444, hN_444⟩ : ∃ N9 : Nat → Int, N9 = va_up N6 3510 (N6 3510 * (((bE (L (bx ii)) (fun _ => 1) : Nat) : Int))) := ⟨_, rfl⟩
                    rw [← hN_444] at hN
                    have hO : g_444 i = .inr (11, [.ref (A (i + 1)), .ref (A (i + 2)), .ref (A (i + 3)), .ref (A (i + 4)), .int (iI (q 0)), .ref (A (i + 5)), .ref (A (i + 6)), .ref (A (i + 7)), .ref (A (i + 8)), .int (iI (q 1)), .ref (A (i + 9)), .ref (A (i + 10)), .ref (A (i + 11)), .int (iI (q 2)), .ref (A (i + 12)), .ref (A (i + 13)), .int (iI (q 3)), .ref (A (i + 14)), .ref (A (i + 15)), .ref (A (i + 16)), .int (iI (q 4))]) := by rw [hf_444 _ (by omega)]; exact hO
                    have h5 : g_444 (i + 5) = aI E 16 f5 := by rw [hf_444 _ (by omega)]; exact h5
                    have h6 : g_444 (i + 6) = aI E 128 f6 := by rw [hf_444 _ (by omega)]; exact h6
                    have h7 : g_444 (i + 7) = aI E 128 f7 := by rw [hf_444 _ (by omega)]; exact h7
                    have h8 : g_444 (i + 8) = aI E 16 f8 := by rw [hf_444 _ (by omega)]; exact h8
                    have h14 : g_444 (i + 14) = aI E 6 fx := by rw [hf_444 _ (by omega)]; exact h14
                    have h15 : g_444 (i + 15) = aI E 6 fp := by rw [hf_444 _ (by omega)]; exact h15
                    have h16 : g_444 (i + 16) = aI E 50 fh := by rw [hf_444 _ (by omega)]; exact h16
                    have v_3510 : N_444 3510 = ((prT (LkM L bx) (ii + 1) : Nat) : Int) := by rw [hN_444, va_up_self, v_3510, ← Int.natCast_mul, hps]
                    have v_10 : N_444 10 = V 0 0 := by rw [hN_444, va_up_ne _ _ (by omega)]; exact v_10
                    have hfr : ∀ j, j ≠ i + 1 → g_444 j = gb j := fun j hj => (hf_444 j hj).trans (hfr j hj)
                    refine lv_iinc (v := iI (((ii + 1 : Nat) : Int))) (lv' := [(2, .int (iI (((ii + 1 : Nat) : Int)))), (0, .ref (A (i)))]) X.1 X.2.1 dX11_search_447 hl (k := 1) rfl (by rw [show (Int32.ofInt (1)) = iI (1) from rfl, iI_add]; rfl) (by decide) rfl (fun ls hl => ?_)
                    refine lv_goto (tgt := 420) X.1 X.2.1 dX11_search_450 (by decide) ?_
                    exact ih_420 (ii + 1) N_444 g_444 _ _ _ (by omega) (by omega) hN v_10 v_3510 hfr hW (lv_sub hl [1, 0] rfl)
              exact loop_420 _ 0 N_415 g_415 _ _ _ (Nat.lt_succ_self _) (Nat.zero_le _) hN v_10 v_3510 hfr hW (lv_sub hl [1, 0] rfl)
            · obtain ⟨st, hst⟩ : ∃ st, sn = st + 1 := ⟨sn - 1, by omega⟩
              refine lv_aload_n X.1 X.2.1 dX11_search_149 rfl (lv_at hl 0 rfl) ?_
              refine x_iconst X dX11_search_150 ?_
              refine x_lconst X 1 (by decide) dX11_search_151 ?_
              refine x_cv (x_runV (k := 2) (As := [.int (iI (3)), .long (lI (1))]) (rest := []) X hW (c_X11_set l E A n _ g4 i (3) q N1 (1) hi hO (by omega) hN (by decide) (by decide)) (by omega) hO rfl gX11_search_X11_set rfl rfl rfl (by decide +kernel) ⟨by decide, by decide⟩ rfl hl.1 rfl (Nat.le_of_ble_eq_true rfl) dX11_search_152 ⟨Nat.zero_le _, Nat.zero_le _⟩) hW (fun g_152 H locs hp_152 hW => ?_)
              obtain ⟨hN, hf_152⟩ := hp_152
              obtain ⟨N_152, hN_152⟩ : ∃ N9 : Nat → Int, N9 = va_up N1 3 (1) := ⟨_, rfl⟩
              rw [← hN_152] at hN
              have hO : g_152 i = .inr (11, [.ref (A (i + 1)), .ref (A (i + 2)), .ref (A (i + 3)), .ref (A (i + 4)), .int (iI (q 0)), .ref (A (i + 5)), .ref (A (i + 6)), .ref (A (i + 7)), .ref (A (i + 8)), .int (iI (q 1)), .ref (A (i + 9)), .ref (A (i + 10)), .ref (A (i + 11)), .int (iI (q 2)), .ref (A (i + 12)), .ref (A (i + 13)), .int (iI (q 3)), .ref (A (i + 14)), .ref (A (i + 15)), .ref (A (i + 16)), .int (iI (q 4))]) := by rw [hf_152 _ (by omega)]; exact hO
              have h5 : g_152 (i + 5) = aI E 16 f5 := by rw [hf_152 _ (by omega)]; exact h5
              have h6 : g_152 (i + 6) = aI E 128 f6 := by rw [hf_152 _ (by omega)]; exact h6
              have h7 : g_152 (i + 7) = aI E 128 f7 := by rw [hf_152 _ (by omega)]; exact h7
              have h8 : g_152 (i + 8) = aI E 16 f8 := by rw [hf_152 _ (by omega)]; exact h8
              have h14 : g_152 (i + 14) = aI E 6 fx := by rw [hf_152 _ (by omega)]; exact h14
              have h15 : g_152 (i + 15) = aI E 6 fp := by rw [hf_152 _ (by omega)]; exact h15
              have h16 : g_152 (i + 16) = aI E 50 fh := by rw [hf_152 _ (by omega)]; exact h16
              have v_3 : N_152 3 = 1 := by rw [hN_152, va_up_self]
              have hfr : ∀ j, j ≠ i + 1 → g_152 j = gb j := fun j hj => (hf_152 j hj).trans (hfr j hj)
              refine x_iconst X dX11_search_155 ?_
              refine x_seti (((0 : Nat) : Int)) rfl ?_
              refine lv_istore_n (lv' := [(3, .int (iI (((0 : Nat) : Int)))), (0, .ref (A (i))), (2, .int (iI ((sn : Int) - 1)))]) X.1 X.2.1 dX11_search_156 rfl hl (by decide) rfl (fun ls hl => ?_)
              have loop_157 : ∀ (fuel : Nat) (ii : Nat) (N2 : Nat → Int) (g5 : Nat → va_E) (H : Heap) (locs : List Loc) (ls : Array Slot), (xz - ii) < fuel → (ii ≤ xz) → (MN E A g5 i N2) → (N2 3 = ((prS (LkM L bx) st ii : Nat) : Int)) → (∀ x, x ≠ 3 → N2 x = N1 x) → (∀ j, j ≠ i + 1 → g5 j = gb j) → wH E (wF A n sz) A n s_ g5 H locs → lv_has ls 8 [(0, .ref (A (i))), (2, .int (iI ((sn : Int) - 1))), (3, .int (iI (((ii : Nat) : Int))))] → W p_ l e_ ({ frames := 7, cells := 0, slots := 0, locals := 260 } : Room) s_ m_ [.ref (A (i))].toArray below meth c_ H locs 0 0 (MQ below (va_Qv (fun g' => MR E A g' i (rdT (V 0 0) (prT (LkM L bx) xz)) (rdB (V 0 0) (prT (LkM L bx) xz)) ∧ (∃ v : Int, g' i = mO A i (va_up qo 4 v)) ∧ (∃ f : Nat → Int32, g' (i + 16) = aI E 50 f) ∧ ∀ j, (j ≠ i ∧ j ≠ i + 1 ∧ j ≠ i + 16) → g' j = g j) (wAt E A n) (wF A n sz)) [.ref (A (i))].toArray s_ 0 0 (wF A n sz)) (F0 m_ 157 ls []) := by
                intro fuel
                induction fuel with
                | zero => intro ii N2 g5 H locs ls hm; exact absurd hm (Nat.not_lt_zero _)
                | succ fuel ih_157 =>
                  intro ii N2 g5 H locs ls hm hii hN v_3 hot3 hfr hW hl
                  have hO : g5 i = .inr (11, [.ref (A (i + 1)), .ref (A (i + 2)), .ref (A (i + 3)), .ref (A (i + 4)), .int (iI (q 0)), .ref (A (i + 5)), .ref (A (i + 6)), .ref (A (i + 7)), .ref (A (i + 8)), .int (iI (q 1)), .ref (A (i + 9)), .ref (A (i + 10)), .ref (A (i + 11)), .int (iI (q 2)), .ref (A (i + 12)), .ref (A (i + 13)), .int (iI (q 3)), .ref (A (i + 14)), .ref (A (i + 15)), .ref (A (i + 16)), .int (iI (q 4))]) := (hfr _ (by omega)).trans hOg
                  have h5 : g5 (i + 5) = aI E 16 f5 := (hfr _ (by omega)).trans h5o
                  have h6 : g5 (i + 6) = aI E 128 f6 := (hfr _ (by omega)).trans h6o
                  have h7 : g5 (i + 7) = aI E 128 f7 := (hfr _ (by omega)).trans h7o
                  have h8 : g5 (i + 8) = aI E 16 f8 := (hfr _ (by omega)).trans h8o
                  have h14 : g5 (i + 14) = aI E 6 fx := (hfr _ (by omega)).trans h14o
                  have h15 : g5 (i + 15) = aI E 6 fp := (hfr _ (by omega)).trans h15o
                  have h16 : g5 (i + 16) = aI E 50 fh := (hfr _ (by omega)).trans h16o
                  refine lv_iload_n X.1 X.2.1 dX11_search_157 rfl (lv_at hl 2 rfl) ?_
                  refine lv_aload_n X.1 X.2.1 dX11_search_158 rfl (lv_at hl 0 rfl) ?_
                  refine x_get (C := RX11) (T := TX11) (N := 21) X hW (by omega) hO rfl lk_0 16 (by decide) lk_2 rfl dX11_search_159 ?_
                  refine x_seti ((xz : Int)) hq3 ?_
                  refine x_icmp_ge (tgt := 196) X ⟨by omega, by omega⟩ ⟨by omega, by omega⟩ dX11_search_162 (by decide) (fun b_162 => ?_) (fun b_162 => ?_)
                  · rw [show ii = xz from by omega] at v_3
                    have hpl := prS_le (Lx := (LkM L bx)) hcap0 st xz (Nat.le_refl _)
                    have hp24 : 8000 ^ xz ≤ 8000 ^ 6 := Nat.pow_le_pow_right (by decide) (by omega)
                    have hPS : prS (LkM L bx) st xz ≤ 10 ^ 24 := by omega
                    refine x_iconst X dX11_search_196 ?_
                    refine x_seti (((0 : Nat) : Int)) rfl ?_
                    refine lv_istore_n (lv' := [(3, .int (iI (((0 : Nat) : Int)))), (0, .ref (A (i))), (2, .int (iI ((sn : Int) - 1)))]) X.1 X.2.1 dX11_search_197 rfl hl (by decide) rfl (fun ls hl => ?_)
                    have loop_198 : ∀ (fuel : Nat) (hh : Nat) (N3 : Nat → Int) (g6 : Nat → va_E) (H : Heap) (locs : List Loc) (ls : Array Slot), (hc - hh) < fuel → (hh ≤ hc) → (MN E A g6 i N3) → (N3 3 = ((prS (LkM L bx) st xz : Nat) : Int)) → (∀ h, h < hh → N3 (10 + 50 * st + h) = V st (hd h)) → (∀ s2, sn ≤ s2 → s2 < 2 ^ xz → ∀ h, h < hc → N3 (10 + 50 * s2 + h) = V s2 (hd h)) → (∀ j, j ≠ i + 1 → g6 j = gb j) → wH E (wF A n sz) A n s_ g6 H locs → lv_has ls 8 [(0, .ref (A (i))), (2, .int (iI ((sn : Int) - 1))), (3, .int (iI (((hh : Nat) : Int))))] → W p_ l e_ ({ frames := 7, cells := 0, slots := 0, locals := 260 } : Room) s_ m_ [.ref (A (i))].toArray below meth c_ H locs 0 0 (MQ below (va_Qv (fun g' => MR E A g' i (rdT (V 0 0) (prT (LkM L bx) xz)) (rdB (V 0 0) (prT (LkM L bx) xz)) ∧ (∃ v : Int, g' i = mO A i (va_up qo 4 v)) ∧ (∃ f : Nat → Int32, g' (i + 16) = aI E 50 f) ∧ ∀ j, (j ≠ i ∧ j ≠ i + 1 ∧ j ≠ i + 16) → g' j = g j) (wAt E A n) (wF A n sz)) [.ref (A (i))].toArray s_ 0 0 (wF A n sz)) (F0 m_ 198 ls []) := by
                      intro fuel
                      induction fuel with
                      | zero => intro hh N3 g6 H locs ls hm; exact absurd hm (Nat.not_lt_zero _)
                      | succ fuel ih_198 =>
                        intro hh N3 g6 H locs ls hm hhc hN v_3 hTn hTo hfr hW hl
                        have hO : g6 i = .inr (11, [.ref (A (i + 1)), .ref (A (i + 2)), .ref (A (i + 3)), .ref (A (i + 4)), .int (iI (q 0)), .ref (A (i + 5)), .ref (A (i + 6)), .ref (A (i + 7)), .ref (A (i + 8)), .int (iI (q 1)), .ref (A (i + 9)), .ref (A (i + 10)), .ref (A (i + 11)), .int (iI (q 2)), .ref (A (i + 12)), .ref (A (i + 13)), .int (iI (q 3)), .ref (A (i + 14)), .ref (A (i + 15)), .ref (A (i + 16)), .int (iI (q 4))]) := (hfr _ (by omega)).trans hOg
                        have h5 : g6 (i + 5) = aI E 16 f5 := (hfr _ (by omega)).trans h5o
                        have h6 : g6 (i + 6) = aI E 128 f6 := (hfr _ (by omega)).trans h6o
                        have h7 : g6 (i + 7) = aI E 128 f7 := (hfr _ (by omega)).trans h7o
                        have h8 : g6 (i + 8) = aI E 16 f8 := (hfr _ (by omega)).trans h8o
                        have h14 : g6 (i + 14) = aI E 6 fx := (hfr _ (by omega)).trans h14o
                        have h15 : g6 (i + 15) = aI E 6 fp := (hfr _ (by omega)).trans h15o
                        have h16 : g6 (i + 16) = aI E 50 fh := (hfr _ (by omega)).trans h16o
                        refine lv_iload_n X.1 X.2.1 dX11_search_198 rfl (lv_at hl 2 rfl) ?_
                        refine lv_aload_n X.1 X.2.1 dX11_search_199 rfl (lv_at hl 0 rfl) ?_
                        refine x_get (C := RX11) (T := TX11) (N := 21) X hW (by omega) hO rfl lk_0 20 (by decide) lk_1 rfl dX11_search_200 ?_
                        refine x_seti (((hc : Nat) : Int)) hq4 ?_
                        refine x_icmp_ge (tgt := 404) X ⟨by omega, by omega⟩ ⟨by omega, by omega⟩ dX11_search_203 (by decide) (fun b_203 => ?_) (fun b_203 => ?_)
                        · refine lv_iinc (v := iI ((st : Int) - 1)) (lv' := [(2, .int (iI ((st : Int) - 1))), (0, .ref (A (i))), (3, .int (iI (((hh : Nat) : Int))))]) X.1 X.2.1 dX11_search_404 hl (k := 1) rfl (by rw [show (Int32.ofInt (-1)) = iI (-1) from rfl, iI_add]; congr 1; omega) (by decide) rfl (fun ls hl => ?_)
                          refine lv_goto (tgt := 145) X.1 X.2.1 dX11_search_407 (by decide) ?_
                          exact ih_145 st N3 g6 _ _ _ (by omega) (by omega) hN (fun s2 h1 h2 h h3 => if es : s2 = st then (by rw [es]; exact hTn h (by omega)) else hTo s2 (by omega) h2 h h3) hfr hW (lv_sub hl [1, 0] rfl)
                        · have hbl0 : blM (LkM L bx) px xz V st (hd hh) 0 = 0 + ((prS (LkM L bx) st xz : Nat) : Int) * ((hd hh : Nat) : Int) := rfl
                          have hdr := (hadr hh (by omega)).2
                          have hm9 := mul_rng (a := ((prS (LkM L bx) st xz : Nat) : Int)) (b := ((hd hh : Nat) : Int)) (10 ^ 24) 1000 (by omega) (by omega) (by omega) (by omega)
                          have hotA : ∀ x, (x ≠ 2 ∧ x ≠ 10 + 50 * st + hh) → N3 x = N3 x := fun _ _ => rfl
                          refine x_bipush X (by decide) dX11_search_206 ?_
                          refine x_bipush X (by decide) dX11_search_208 ?_
                          refine lv_iload_n X.1 X.2.1 dX11_search_210 rfl (lv_at hl 1 rfl) ?_
                          refine x_seti (((st : Nat) : Int)) (by omega) ?_
                          refine x_imul X dX11_search_211 ?_
                          refine x_iadd X dX11_search_212 ?_
                          refine lv_iload_n X.1 X.2.1 dX11_search_213 rfl (lv_at hl 2 rfl) ?_
                          refine x_iadd X dX11_search_214 ?_
                          refine x_seti (((10 + 50 * st + hh : Nat) : Int)) (by omega) ?_
                          refine lv_istore (lv' := [(4, .int (iI (((10 + 50 * st + hh : Nat) : Int)))), (0, .ref (A (i))), (2, .int (iI ((sn : Int) - 1))), (3, .int (iI (((hh : Nat) : Int))))]) X.1 X.2.1 dX11_search_215 hl (by decide) rfl (fun ls hl => ?_)
                          refine lv_aload_n X.1 X.2.1 dX11_search_217 rfl (lv_at hl 1 rfl) ?_
                          refine lv_iload X.1 X.2.1 dX11_search_218 (lv_at hl 0 rfl) ?_
                          refine x_lconst X 0 (by decide) dX11_search_220 ?_
                          refine x_cv (x_runV (k := 2) (As := [.int (iI (((10 + 50 * st + hh : Nat) : Int))), .long (lI (0))]) (rest := []) X hW (c_X11_set l E A n _ g6 i (10 + 50 * st + hh) q N3 (0) hi hO (by omega) hN (by decide) (by decide)) (by omega) hO rfl gX11_search_X11_set rfl rfl rfl (by decide +kernel) ⟨by decide, by decide⟩ rfl hl.1 rfl (Nat.le_of_ble_eq_true rfl) dX11_search_221 ⟨Nat.zero_le _, Nat.zero_le _⟩) hW (fun g_221 H locs hp_221 hW => ?_)
                          obtain ⟨hN, hf_221⟩ := hp_221
                          obtain ⟨N_221, hN_221⟩ : ∃ N9 : Nat → Int, N9 = va_up N3 (10 + 50 * st + hh) (0) := ⟨_, rfl⟩
                          rw [← hN_221] at hN
                          have hO : g_221 i = .inr (11, [.ref (A (i + 1)), .ref (A (i + 2)), .ref (A (i + 3)), .ref (A (i + 4)), .int (iI (q 0)), .ref (A (i + 5)), .ref (A (i + 6)), .ref (A (i + 7)), .ref (A (i + 8)), .int (iI (q 1)), .ref (A (i + 9)), .ref (A (i + 10)), .ref (A (i + 11)), .int (iI (q 2)), .ref (A (i + 12)), .ref (A (i + 13)), .int (iI (q 3)), .ref (A (i + 14)), .ref (A (i + 15)), .ref (A (i + 16)), .int (iI (q 4))]) := by rw [hf_221 _ (by omega)]; exact hO
                          have h5 : g_221 (i + 5) = aI E 16 f5 := by rw [hf_221 _ (by omega)]; exact h5
                          have h6 : g_221 (i + 6) = aI E 128 f6 := by rw [hf_221 _ (by omega)]; exact h6
                          have h7 : g_221 (i + 7) = aI E 128 f7 := by rw [hf_221 _ (by omega)]; exact h7
                          have h8 : g_221 (i + 8) = aI E 16 f8 := by rw [hf_221 _ (by omega)]; exact h8
                          have h14 : g_221 (i + 14) = aI E 6 fx := by rw [hf_221 _ (by omega)]; exact h14
                          have h15 : g_221 (i + 15) = aI E 6 fp := by rw [hf_221 _ (by omega)]; exact h15
                          have h16 : g_221 (i + 16) = aI E 50 fh := by rw [hf_221 _ (by omega)]; exact h16
                          have v_10___50___st___hh : N_221 (10 + 50 * st + hh) = 0 := by rw [hN_221, va_up_self]
                          have v_3 : N_221 3 = ((prS (LkM L bx) st xz : Nat) : Int) := by rw [hN_221, va_up_ne _ _ (by omega)]; exact v_3
                          have hotA : ∀ x, (x ≠ 2 ∧ x ≠ 10 + 50 * st + hh) → N_221 x = N3 x := fun x hx => (congrFun hN_221 x).trans ((va_up_ne _ _ (by omega)).trans (hotA x hx))
                          have hfr : ∀ j, j ≠ i + 1 → g_221 j = gb j := fun j hj => (hf_221 j hj).trans (hfr j hj)
                          refine lv_aload_n X.1 X.2.1 dX11_search_224 rfl (lv_at hl 1 rfl) ?_
                          refine lv_iload X.1 X.2.1 dX11_search_225 (lv_at hl 0 rfl) ?_
                          refine x_iconst X dX11_search_227 ?_
                          refine lv_aload_n X.1 X.2.1 dX11_search_228 rfl (lv_at hl 1 rfl) ?_
                          refine x_get (C := RX11) (T := TX11) (N := 21) X hW (by omega) hO rfl lk_0 19 (by decide) lk_5 rfl dX11_search_229 ?_
                          refine lv_iload_n X.1 X.2.1 dX11_search_232 rfl (lv_at hl 3 rfl) ?_
                          refine x_iald X hW (by omega) h16 (v := iI (((hd hh : Nat) : Int))) hh (by omega) (by omega) (by decide) ((hadr hh (by omega)).1) dX11_search_233 ?_
                          refine x_i2l X ⟨by omega, by omega⟩ dX11_search_234 ?_
                          refine x_cv (x_runV (k := 3) (As := [.int (iI (((10 + 50 * st + hh : Nat) : Int))), .int (iI (3)), .long (lI (((hd hh : Nat) : Int)))]) (rest := []) X hW (c_X11_more l E A n _ g_221 i (10 + 50 * st + hh) (3) q N_221 (((hd hh : Nat) : Int)) hi hO (by omega) (by omega) (by omega) hN (by omega) (by omega) (by rw [v_10___50___st___hh, v_3]; omega) (by rw [v_10___50___st___hh, v_3]; omega)) (by omega) hO rfl gX11_search_X11_more rfl rfl rfl (by decide +kernel) ⟨by decide, by decide⟩ rfl hl.1 rfl (Nat.le_of_ble_eq_true rfl) dX11_search_235 ⟨Nat.zero_le _, Nat.zero_le _⟩) hW (fun g_235 H locs hp_235 hW => ?_)
                          obtain ⟨hN, hf_235⟩ := hp_235
                          obtain ⟨N_235, hN_235⟩ : ∃ N9 : Nat → Int, N9 = va_up N_221 (10 + 50 * st + hh) (N_221 (10 + 50 * st + hh) + N_221 3 * (((hd hh : Nat) : Int))) := ⟨_, rfl⟩
                          rw [← hN_235] at hN
                          have hO : g_235 i = .inr (11, [.ref (A (i + 1)), .ref (A (i + 2)), .ref (A (i + 3)), .ref (A (i + 4)), .int (iI (q 0)), .ref (A (i + 5)), .ref (A (i + 6)), .ref (A (i + 7)), .ref (A (i + 8)), .int (iI (q 1)), .ref (A (i + 9)), .ref (A (i + 10)), .ref (A (i + 11)), .int (iI (q 2)), .ref (A (i + 12)), .ref (A (i + 13)), .int (iI (q 3)), .ref (A (i + 14)), .ref (A (i + 15)), .ref (A (i + 16)), .int (iI (q 4))]) := by rw [hf_235 _ (by omega)]; exact hO
                          have h5 : g_235 (i + 5) = aI E 16 f5 := by rw [hf_235 _ (by omega)]; exact h5
                          have h6 : g_235 (i + 6) = aI E 128 f6 := by rw [hf_235 _ (by omega)]; exact h6
                          have h7 : g_235 (i + 7) = aI E 128 f7 := by rw [hf_235 _ (by omega)]; exact h7
                          have h8 : g_235 (i + 8) = aI E 16 f8 := by rw [hf_235 _ (by omega)]; exact h8
                          have h14 : g_235 (i + 14) = aI E 6 fx := by rw [hf_235 _ (by omega)]; exact h14
                          have h15 : g_235 (i + 15) = aI E 6 fp := by rw [hf_235 _ (by omega)]; exact h15
                          have h16 : g_235 (i + 16) = aI E 50 fh := by rw [hf_235 _ (by omega)]; exact h16
                          have v_10___50___st___hh : N_235 (10 + 50 * st + hh) = blM (LkM L bx) px xz V st (hd hh) 0 := by rw [hN_235, va_up_self, v_10___50___st___hh, v_3, ← hbl0]
                          have v_3 : N_235 3 = ((prS (LkM L bx) st xz : Nat) : Int) := by rw [hN_235, va_up_ne _ _ (by omega)]; exact v_3
                          have hotA : ∀ x, (x ≠ 2 ∧ x ≠ 10 + 50 * st + hh) → N_235 x = N3 x := fun x hx => (congrFun hN_235 x).trans ((va_up_ne _ _ (by omega)).trans (hotA x hx))
                          have hfr : ∀ j, j ≠ i + 1 → g_235 j = gb j := fun j hj => (hf_235 j hj).trans (hfr j hj)
                          refine x_iconst X dX11_search_238 ?_
                          refine x_seti (((0 : Nat) : Int)) rfl ?_
                          refine lv_istore (lv' := [(5, .int (iI (((0 : Nat) : Int)))), (4, .int (iI (((10 + 50 * st + hh : Nat) : Int)))), (0, .ref (A (i))), (2, .int (iI ((sn : Int) - 1))), (3, .int (iI (((hh : Nat) : Int))))]) X.1 X.2.1 dX11_search_239 hl (by decide) rfl (fun ls hl => ?_)
                          have loop_241 : ∀ (fuel : Nat) (ii : Nat) (N4 : Nat → Int) (g7 : Nat → va_E) (H : Heap) (locs : List Loc) (ls : Array Slot), (xz - ii) < fuel → (ii ≤ xz) → (MN E A g7 i N4) → (N4 3 = ((prS (LkM L bx) st xz : Nat) : Int)) → (N4 (10 + 50 * st + hh) = blM (LkM L bx) px xz V st (hd hh) ii) → (∀ x, (x ≠ 2 ∧ x ≠ 10 + 50 * st + hh) → N4 x = N3 x) → (∀ j, j ≠ i + 1 → g7 j = gb j) → wH E (wF A n sz) A n s_ g7 H locs → lv_has ls 8 [(0, .ref (A (i))), (2, .int (iI ((sn : Int) - 1))), (3, .int (iI (((hh : Nat) : Int)))), (4, .int (iI (((10 + 50 * st + hh : Nat) : Int)))), (5, .int (iI (((ii : Nat) : Int))))] → W p_ l e_ ({ frames := 7, cells := 0, slots := 0, locals := 260 } : Room) s_ m_ [.ref (A (i))].toArray below meth c_ H locs 0 0 (MQ below (va_Qv (fun g' => MR E A g' i (rdT (V 0 0) (prT (LkM L bx) xz)) (rdB (V 0 0) (prT (LkM L bx) xz)) ∧ (∃ v : Int, g' i = mO A i (va_up qo 4 v)) ∧ (∃ f : Nat → Int32, g' (i + 16) = aI E 50 f) ∧ ∀ j, (j ≠ i ∧ j ≠ i + 1 ∧ j ≠ i + 16) → g' j = g j) (wAt E A n) (wF A n sz)) [.ref (A (i))].toArray s_ 0 0 (wF A n sz)) (F0 m_ 241 ls []) := by
                            intro fuel
                            induction fuel with
                            | zero => intro ii N4 g7 H locs ls hm; exact absurd hm (Nat.not_lt_zero _)
                            | succ fuel ih_241 =>
                              intro ii N4 g7 H locs ls hm hii hN v_3 v_10___50___st___hh hotA hfr hW hl
                              have hO : g7 i = .inr (11, [.ref (A (i + 1)), .ref (A (i + 2)), .ref (A (i + 3)), .ref (A (i + 4)), .int (iI (q 0)), .ref (A (i + 5)), .ref (A (i + 6)), .ref (A (i + 7)), .ref (A (i + 8)), .int (iI (q 1)), .ref (A (i + 9)), .ref (A (i + 10)), .ref (A (i + 11)), .int (iI (q 2)), .ref (A (i + 12)), .ref (A (i + 13)), .int (iI (q 3)), .ref (A (i + 14)), .ref (A (i + 15)), .ref (A (i + 16)), .int (iI (q 4))]) := (hfr _ (by omega)).trans hOg
                              have h5 : g7 (i + 5) = aI E 16 f5 := (hfr _ (by omega)).trans h5o
                              have h6 : g7 (i + 6) = aI E 128 f6 := (hfr _ (by omega)).trans h6o
                              have h7 : g7 (i + 7) = aI E 128 f7 := (hfr _ (by omega)).trans h7o
                              have h8 : g7 (i + 8) = aI E 16 f8 := (hfr _ (by omega)).trans h8o
                              have h14 : g7 (i + 14) = aI E 6 fx := (hfr _ (by omega)).trans h14o
                              have h15 : g7 (i + 15) = aI E 6 fp := (hfr _ (by omega)).trans h15o
                              have h16 : g7 (i + 16) = aI E 50 fh := (hfr _ (by omega)).trans h16o
                              refine lv_iload X.1 X.2.1 dX11_search_241 (lv_at hl 4 rfl) ?_
                              refine lv_aload_n X.1 X.2.1 dX11_search_243 rfl (lv_at hl 0 rfl) ?_
                              refine x_get (C := RX11) (T := TX11) (N := 21) X hW (by omega) hO rfl lk_0 16 (by decide) lk_2 rfl dX11_search_244 ?_
                              refine x_seti ((xz : Int)) hq3 ?_
                              refine x_icmp_ge (tgt := 398) X ⟨by omega, by omega⟩ ⟨by omega, by omega⟩ dX11_search_247 (by decide) (fun b_247 => ?_) (fun b_247 => ?_)
                              · rw [show ii = xz from by omega, ← hVb st (by omega) (hd hh) (hadr hh (by omega)).2] at v_10___50___st___hh
                                refine lv_iinc (v := iI (((hh + 1 : Nat) : Int))) (lv' := [(3, .int (iI (((hh + 1 : Nat) : Int)))), (0, .ref (A (i))), (2, .int (iI ((sn : Int) - 1))), (4, .int (iI (((10 + 50 * st + hh : Nat) : Int)))), (5, .int (iI (((ii : Nat) : Int))))]) X.1 X.2.1 dX11_search_398 hl (k := 2) rfl (by rw [show (Int32.ofInt (1)) = iI (1) from rfl, iI_add]; rfl) (by decide) rfl (fun ls hl => ?_)
                                refine lv_goto (tgt := 198) X.1 X.2.1 dX11_search_401 (by decide) ?_
                                exact ih_198 (hh + 1) N4 g7 _ _ _ (by omega) (by omega) hN v_3 (fun h hx => if eh : h = hh then (by rw [eh]; exact v_10___50___st___hh) else (by rw [hotA _ (by omega)]; exact hTn h (by omega))) (fun s2 h1 h2 h h3 => by rw [hotA _ (by omega)]; exact hTo s2 h1 h2 h h3) hfr hW (lv_sub hl [1, 2, 0] rfl)
                              · obtain ⟨hx1, hx2, hx3, hx4⟩ := hxv ii (by omega)
                                obtain ⟨hb1, hb5, hb8, hb9, hbq⟩ := hbv (bx ii) hx1
                                have ht8 : bE (L (bx ii)) (fun _ => 1) ≤ 8000 := hcap0 ii (by omega)
                                have hb01 := bBit_01 st ii
                                have hcd0 : cdT (LkM L bx) px xz V st (hd hh) ii 0 = 0 + ((prS (LkM L bx) st xz : Nat) : Int) * (-((px ii : Nat) : Int)) := Int.add_zero _
                                have hm8 := mul_rng (a := ((prS (LkM L bx) st xz : Nat) : Int)) (b := -((px ii : Nat) : Int)) (10 ^ 24) 1000 (by omega) (by omega) (by omega) (by omega)
                                refine lv_iload_n X.1 X.2.1 dX11_search_250 rfl (lv_at hl 1 rfl) ?_
                                refine x_seti (((st : Nat) : Int)) (by omega) ?_
                                refine lv_iload X.1 X.2.1 dX11_search_251 (lv_at hl 4 rfl) ?_
                                refine lv_ishr X.1 X.2.1 dX11_search_253 ?_
                                refine x_iconst X dX11_search_254 ?_
                                refine lv_iand X.1 X.2.1 dX11_search_255 ?_
                                refine x_topi (iI (((bBit st ii : Nat) : Int))) (sr_bit ii (by omega) st (by omega)) ?_
                                refine x_iconst X dX11_search_256 ?_
                                refine x_icmp_ne (tgt := 263) X ⟨by omega, by omega⟩ ⟨by decide, by decide⟩ dX11_search_257 (by decide) (fun b_257 => ?_) (fun b_257 => ?_)
                                · have hbit : bBit st ii = 0 := by have := bBit_01 st ii; omega
                                  have hp2 : 0 < 2 ^ ii := Nat.pow_pos (by decide)
                                  have hub := up_bit xz (by omega) ii (by omega) st (by omega) hbit
                                  have w_3 := v_3
                                  have w_at := v_10___50___st___hh
                                  have wA := hotA
                                  refine lv_aload_n X.1 X.2.1 dX11_search_263 rfl (lv_at hl 0 rfl) ?_
                                  refine x_iconst X dX11_search_264 ?_
                                  refine x_lconst X 0 (by decide) dX11_search_265 ?_
                                  refine x_cv (x_runV (k := 2) (As := [.int (iI (2)), .long (lI (0))]) (rest := []) X hW (c_X11_set l E A n _ g7 i (2) q N4 (0) hi hO (by omega) hN (by decide) (by decide)) (by omega) hO rfl gX11_search_X11_set rfl rfl rfl (by decide +kernel) ⟨by decide, by decide⟩ rfl hl.1 rfl (Nat.le_of_ble_eq_true rfl) dX11_search_266 ⟨Nat.zero_le _, Nat.zero_le _⟩) hW (fun g_266 H locs hp_266 hW => ?_)
                                  obtain ⟨hN, hf_266⟩ := hp_266
                                  obtain ⟨N_266, hN_266⟩ : ∃ N9 : Nat → Int, N9 = va_up N4 2 (0) := ⟨_, rfl⟩
                                  rw [← hN_266] at hN
                                  have hO : g_266 i = .inr (11, [.ref (A (i + 1)), .ref (A (i + 2)), .ref (A (i + 3)), .ref (A (i + 4)), .int (iI (q 0)), .ref (A (i + 5)), .ref (A (i + 6)), .ref (A (i + 7)), .ref (A (i + 8)), .int (iI (q 1)), .ref (A (i + 9)), .ref (A (i + 10)), .ref (A (i + 11)), .int (iI (q 2)), .ref (A (i + 12)), .ref (A (i + 13)), .int (iI (q 3)), .ref (A (i + 14)), .ref (A (i + 15)), .ref (A (i + 16)), .int (iI (q 4))]) := by rw [hf_266 _ (by omega)]; exact hO
                                  have h5 : g_266 (i + 5) = aI E 16 f5 := by rw [hf_266 _ (by omega)]; exact h5
                                  have h6 : g_266 (i + 6) = aI E 128 f6 := by rw [hf_266 _ (by omega)]; exact h6
                                  have h7 : g_266 (i + 7) = aI E 128 f7 := by rw [hf_266 _ (by omega)]; exact h7
                                  have h8 : g_266 (i + 8) = aI E 16 f8 := by rw [hf_266 _ (by omega)]; exact h8
                                  have h14 : g_266 (i + 14) = aI E 6 fx := by rw [hf_266 _ (by omega)]; exact h14
                                  have h15 : g_266 (i + 15) = aI E 6 fp := by rw [hf_266 _ (by omega)]; exact h15
                                  have h16 : g_266 (i + 16) = aI E 50 fh := by rw [hf_266 _ (by omega)]; exact h16
                                  have v_2 : N_266 2 = 0 := by rw [hN_266, va_up_self]
                                  have v_3 : N_266 3 = ((prS (LkM L bx) st xz : Nat) : Int) := by rw [hN_266, va_up_ne _ _ (by omega)]; exact v_3
                                  have v_10___50___st___hh : N_266 (10 + 50 * st + hh) = blM (LkM L bx) px xz V st (hd hh) ii := by rw [hN_266, va_up_ne _ _ (by omega)]; exact v_10___50___st___hh
                                  have hotA : ∀ x, (x ≠ 2 ∧ x ≠ 10 + 50 * st + hh) → N_266 x = N3 x := fun x hx => (congrFun hN_266 x).trans ((va_up_ne _ _ (by omega)).trans (hotA x hx))
                                  have hfr : ∀ j, j ≠ i + 1 → g_266 j = gb j := fun j hj => (hf_266 j hj).trans (hfr j hj)
                                  refine lv_aload_n X.1 X.2.1 dX11_search_269 rfl (lv_at hl 0 rfl) ?_
                                  refine x_iconst X dX11_search_270 ?_
                                  refine x_iconst X dX11_search_271 ?_
                                  refine lv_aload_n X.1 X.2.1 dX11_search_272 rfl (lv_at hl 0 rfl) ?_
                                  refine x_get (C := RX11) (T := TX11) (N := 21) X hW (by omega) hO rfl lk_0 18 (by decide) lk_6 rfl dX11_search_273 ?_
                                  refine lv_iload X.1 X.2.1 dX11_search_276 (lv_at hl 4 rfl) ?_
                                  refine x_iald X hW (by omega) h15 (v := iI (((px ii : Nat) : Int))) ii (by omega) (by omega) (by decide) hx4 dX11_search_278 ?_
                                  refine x_ineg X dX11_search_279 ?_
                                  refine x_i2l X ⟨by omega, by omega⟩ dX11_search_280 ?_
                                  refine x_cv (x_runV (k := 3) (As := [.int (iI (2)), .int (iI (3)), .long (lI (-(((px ii : Nat) : Int))))]) (rest := []) X hW (c_X11_more l E A n _ g_266 i (2) (3) q N_266 (-((px ii : Nat) : Int)) hi hO (by omega) (by omega) (by omega) hN (by omega) (by omega) (by rw [v_2, v_3]; omega) (by rw [v_2, v_3]; omega)) (by omega) hO rfl gX11_search_X11_more rfl rfl rfl (by decide +kernel) ⟨by decide, by decide⟩ rfl hl.1 rfl (Nat.le_of_ble_eq_true rfl) dX11_search_281 ⟨Nat.zero_le _, Nat.zero_le _⟩) hW (fun g_281 H locs hp_281 hW => ?_)
                                  obtain ⟨hN, hf_281⟩ := hp_281
                                  obtain ⟨N_281, hN_281⟩ : ∃ N9 : Nat → Int, N9 = va_up N_266 2 (N_266 2 + N_266 3 * (-((px ii : Nat) : Int))) := ⟨_, rfl⟩
                                  rw [← hN_281] at hN
                                  have hO : g_281 i = .inr (11, [.ref (A (i + 1)), .ref (A (i + 2)), .ref (A (i + 3)), .ref (A (i + 4)), .int (iI (q 0)), .ref (A (i + 5)), .ref (A (i + 6)), .ref (A (i + 7)), .ref (A (i + 8)), .int (iI (q 1)), .ref (A (i + 9)), .ref (A (i + 10)), .ref (A (i + 11)), .int (iI (q 2)), .ref (A (i + 12)), .ref (A (i + 13)), .int (iI (q 3)), .ref (A (i + 14)), .ref (A (i + 15)), .ref (A (i + 16)), .int (iI (q 4))]) := by rw [hf_281 _ (by omega)]; exact hO
                                  have h5 : g_281 (i + 5) = aI E 16 f5 := by rw [hf_281 _ (by omega)]; exact h5
                                  have h6 : g_281 (i + 6) = aI E 128 f6 := by rw [hf_281 _ (by omega)]; exact h6
                                  have h7 : g_281 (i + 7) = aI E 128 f7 := by rw [hf_281 _ (by omega)]; exact h7
                                  have h8 : g_281 (i + 8) = aI E 16 f8 := by rw [hf_281 _ (by omega)]; exact h8
                                  have h14 : g_281 (i + 14) = aI E 6 fx := by rw [hf_281 _ (by omega)]; exact h14
                                  have h15 : g_281 (i + 15) = aI E 6 fp := by rw [hf_281 _ (by omega)]; exact h15
                                  have h16 : g_281 (i + 16) = aI E 50 fh := by rw [hf_281 _ (by omega)]; exact h16
                                  have v_2 : N_281 2 = cdT (LkM L bx) px xz V st (hd hh) ii 0 := by rw [hN_281, va_up_self, v_2, v_3, ← hcd0]
                                  have v_3 : N_281 3 = ((prS (LkM L bx) st xz : Nat) : Int) := by rw [hN_281, va_up_ne _ _ (by omega)]; exact v_3
                                  have v_10___50___st___hh : N_281 (10 + 50 * st + hh) = blM (LkM L bx) px xz V st (hd hh) ii := by rw [hN_281, va_up_ne _ _ (by omega)]; exact v_10___50___st___hh
                                  have hotA : ∀ x, (x ≠ 2 ∧ x ≠ 10 + 50 * st + hh) → N_281 x = N3 x := fun x hx => (congrFun hN_281 x).trans ((va_up_ne _ _ (by omega)).trans (hotA x hx))
                                  have hfr : ∀ j, j ≠ i + 1 → g_281 j = gb j := fun j hj => (hf_281 j hj).trans (hfr j hj)
                                  refine x_bipush X (by decide) dX11_search_284 ?_
                                  refine lv_aload_n X.1 X.2.1 dX11_search_286 rfl (lv_at hl 0 rfl) ?_
                                  refine x_get (C := RX11) (T := TX11) (N := 21) X hW (by omega) hO rfl lk_0 17 (by decide) lk_4 rfl dX11_search_287 ?_
                                  refine lv_iload X.1 X.2.1 dX11_search_290 (lv_at hl 4 rfl) ?_
                                  refine x_iald X hW (by omega) h14 (v := iI (((bx ii : Nat) : Int))) ii (by omega) (by omega) (by decide) hx3 dX11_search_292 ?_
                                  refine x_imul X dX11_search_293 ?_
                                  refine x_seti (((8 * bx ii + 0 : Nat) : Int)) (by omega) ?_
                                  refine lv_istore (lv' := [(6, .int (iI (((8 * bx ii + 0 : Nat) : Int)))), (0, .ref (A (i))), (2, .int (iI ((sn : Int) - 1))), (3, .int (iI (((hh : Nat) : Int)))), (4, .int (iI (((10 + 50 * st + hh : Nat) : Int)))), (5, .int (iI (((ii : Nat) : Int))))]) X.1 X.2.1 dX11_search_294 hl (by decide) rfl (fun ls hl => ?_)
                                  have loop_296 : ∀ (fuel : Nat) (u : Nat) (N5 : Nat → Int) (g8 : Nat → va_E) (H : Heap) (locs : List Loc) (ls : Array Slot), ((L (bx ii)).length - u) < fuel → (u ≤ (L (bx ii)).length) → (MN E A g8 i N5) → (N5 2 = cdT (LkM L bx) px xz V st (hd hh) ii u) → (∀ x, x ≠ 2 → N5 x = N4 x) → (∀ j, j ≠ i + 1 → g8 j = gb j) → wH E (wF A n sz) A n s_ g8 H locs → lv_has ls 8 [(0, .ref (A (i))), (2, .int (iI ((sn : Int) - 1))), (3, .int (iI (((hh : Nat) : Int)))), (4, .int (iI (((10 + 50 * st + hh : Nat) : Int)))), (5, .int (iI (((ii : Nat) : Int)))), (6, .int (iI (((8 * bx ii + u : Nat) : Int))))] → W p_ l e_ ({ frames := 7, cells := 0, slots := 0, locals := 260 } : Room) s_ m_ [.ref (A (i))].toArray below meth c_ H locs 0 0 (MQ below (va_Qv (fun g' => MR E A g' i (rdT (V 0 0) (prT (LkM L bx) xz)) (rdB (V 0 0) (prT (LkM L bx) xz)) ∧ (∃ v : Int, g' i = mO A i (va_up qo 4 v)) ∧ (∃ f : Nat → Int32, g' (i + 16) = aI E 50 f) ∧ ∀ j, (j ≠ i ∧ j ≠ i + 1 ∧ j ≠ i + 16) → g' j = g j) (wAt E A n) (wF A n sz)) [.ref (A (i))].toArray s_ 0 0 (wF A n sz)) (F0 m_ 296 ls []) := by
                                    intro fuel
                                    induction fuel with
                                    | zero => intro u N5 g8 H locs ls hm; exact absurd hm (Nat.not_lt_zero _)
                                    | succ fuel ih_296 =>
                                      intro u N5 g8 H locs ls hm hu hN v_2 hotB hfr hW hl
                                      have hO : g8 i = .inr (11, [.ref (A (i + 1)), .ref (A (i + 2)), .ref (A (i + 3)), .ref (A (i + 4)), .int (iI (q 0)), .ref (A (i + 5)), .ref (A (i + 6)), .ref (A (i + 7)), .ref (A (i + 8)), .int (iI (q 1)), .ref (A (i + 9)), .ref (A (i + 10)), .ref (A (i + 11)), .int (iI (q 2)), .ref (A (i + 12)), .ref (A (i + 13)), .int (iI (q 3)), .ref (A (i + 14)), .ref (A (i + 15)), .ref (A (i + 16)), .int (iI (q 4))]) := (hfr _ (by omega)).trans hOg
                                      have h5 : g8 (i + 5) = aI E 16 f5 := (hfr _ (by omega)).trans h5o
                                      have h6 : g8 (i + 6) = aI E 128 f6 := (hfr _ (by omega)).trans h6o
                                      have h7 : g8 (i + 7) = aI E 128 f7 := (hfr _ (by omega)).trans h7o
                                      have h8 : g8 (i + 8) = aI E 16 f8 := (hfr _ (by omega)).trans h8o
                                      have h14 : g8 (i + 14) = aI E 6 fx := (hfr _ (by omega)).trans h14o
                                      have h15 : g8 (i + 15) = aI E 6 fp := (hfr _ (by omega)).trans h15o
                                      have h16 : g8 (i + 16) = aI E 50 fh := (hfr _ (by omega)).trans h16o
                                      have v_3 := (hotB 3 (by omega)).trans w_3
                                      have v_10___50___st___hh := (hotB (10 + 50 * st + hh) (by omega)).trans w_at
                                      refine lv_iload X.1 X.2.1 dX11_search_296 (lv_at hl 5 rfl) ?_
                                      refine x_bipush X (by decide) dX11_search_298 ?_
                                      refine lv_aload_n X.1 X.2.1 dX11_search_300 rfl (lv_at hl 0 rfl) ?_
                                      refine x_get (C := RX11) (T := TX11) (N := 21) X hW (by omega) hO rfl lk_0 17 (by decide) lk_4 rfl dX11_search_301 ?_
                                      refine lv_iload X.1 X.2.1 dX11_search_304 (lv_at hl 4 rfl) ?_
                                      refine x_iald X hW (by omega) h14 (v := iI (((bx ii : Nat) : Int))) ii (by omega) (by omega) (by decide) hx3 dX11_search_306 ?_
                                      refine x_imul X dX11_search_307 ?_
                                      refine lv_aload_n X.1 X.2.1 dX11_search_308 rfl (lv_at hl 0 rfl) ?_
                                      refine x_get (C := RX11) (T := TX11) (N := 21) X hW (by omega) hO rfl lk_0 5 (by decide) lk_7 rfl dX11_search_309 ?_
                                      refine lv_aload_n X.1 X.2.1 dX11_search_312 rfl (lv_at hl 0 rfl) ?_
                                      refine x_get (C := RX11) (T := TX11) (N := 21) X hW (by omega) hO rfl lk_0 17 (by decide) lk_4 rfl dX11_search_313 ?_
                                      refine lv_iload X.1 X.2.1 dX11_search_316 (lv_at hl 4 rfl) ?_
                                      refine x_iald X hW (by omega) h14 (v := iI (((bx ii : Nat) : Int))) ii (by omega) (by omega) (by decide) hx3 dX11_search_318 ?_
                                      refine x_iald X hW (by omega) h5 (v := iI ((((L (bx ii)).length : Nat) : Int))) (bx ii) (by omega) (by omega) (by decide) hb5 dX11_search_319 ?_
                                      refine x_iadd X dX11_search_320 ?_
                                      refine x_icmp_ge (tgt := 375) X ⟨by omega, by omega⟩ ⟨by omega, by omega⟩ dX11_search_321 (by decide) (fun b_321 => ?_) (fun b_321 => ?_)
                                      · rw [show u = (L (bx ii)).length from by omega] at v_2
                                        have hotA : ∀ x, (x ≠ 2 ∧ x ≠ 10 + 50 * st + hh) → N5 x = N3 x := fun x hx => (hotB x hx.1).trans (wA x hx)
                                        refine lv_aload_n X.1 X.2.1 dX11_search_375 rfl (lv_at hl 0 rfl) ?_
                                        refine x_iconst X dX11_search_376 ?_
                                        refine lv_iload X.1 X.2.1 dX11_search_377 (lv_at hl 3 rfl) ?_
                                        refine x_ci (x_runV (k := 2) (As := [.int (iI (2)), .int (iI (((10 + 50 * st + hh : Nat) : Int)))]) (rest := []) X hW (c_X11_compared l E A n _ g8 i (2) (10 + 50 * st + hh) q N5 hi hO (by omega) (by omega) hN) (by omega) hO rfl gX11_search_X11_compared rfl rfl rfl (by decide +kernel) ⟨by decide, by decide⟩ rfl hl.1 rfl (Nat.le_of_ble_eq_true rfl) dX11_search_379 ⟨Nat.zero_le _, Nat.zero_le _⟩) hW (fun r_379 g_379 H locs hp_379 hW => ?_)
                                        obtain ⟨hr_379, he_379⟩ := hp_379
                                        rw [he_379] at hW
                                        rw [v_2, v_10___50___st___hh] at hr_379
                                        subst hr_379
                                        refine x_if_le (tgt := 392) X (cmp_rng _ _) dX11_search_382 (by decide) (fun b_382 => ?_) (fun b_382 => ?_)
                                        · have hbn : blM (LkM L bx) px xz V st (hd hh) ii = blM (LkM L bx) px xz V st (hd hh) (ii + 1) := by show _ = (if bBit st ii = 0 then (if blM (LkM L bx) px xz V st (hd hh) ii < cdT (LkM L bx) px xz V st (hd hh) ii (L (bx ii)).length then cdT (LkM L bx) px xz V st (hd hh) ii (L (bx ii)).length else blM (LkM L bx) px xz V st (hd hh) ii) else blM (LkM L bx) px xz V st (hd hh) ii); rw [if_pos hbit, if_neg (cmpI_le b_382)]
                                          refine lv_iinc (v := iI (((ii + 1 : Nat) : Int))) (lv' := [(5, .int (iI (((ii + 1 : Nat) : Int)))), (0, .ref (A (i))), (2, .int (iI ((sn : Int) - 1))), (3, .int (iI (((hh : Nat) : Int)))), (4, .int (iI (((10 + 50 * st + hh : Nat) : Int)))), (6, .int (iI (((8 * bx ii + u : Nat) : Int))))]) X.1 X.2.1 dX11_search_392 hl (k := 4) rfl (by rw [show (Int32.ofInt (1)) = iI (1) from rfl, iI_add]; rfl) (by decide) rfl (fun ls hl => ?_)
                                          refine lv_goto (tgt := 241) X.1 X.2.1 dX11_search_395 (by decide) ?_
                                          exact ih_241 (ii + 1) N5 g8 _ _ _ (by omega) (by omega) hN v_3 (by rw [v_10___50___st___hh, hbn]) hotA hfr hW (lv_sub hl [1, 2, 3, 4, 0] rfl)
                                        · have hbn : cdT (LkM L bx) px xz V st (hd hh) ii (L (bx ii)).length = blM (LkM L bx) px xz V st (hd hh) (ii + 1) := by show _ = (if bBit st ii = 0 then (if blM (LkM L bx) px xz V st (hd hh) ii < cdT (LkM L bx) px xz V st (hd hh) ii (L (bx ii)).length then cdT (LkM L bx) px xz V st (hd hh) ii (L (bx ii)).length else blM (LkM L bx) px xz V st (hd hh) ii) else blM (LkM L bx) px xz V st (hd hh) ii); rw [if_pos hbit, if_pos (cmpI_gt b_382)]
                                          refine lv_aload_n X.1 X.2.1 dX11_search_385 rfl (lv_at hl 0 rfl) ?_
                                          refine lv_iload X.1 X.2.1 dX11_search_386 (lv_at hl 3 rfl) ?_
                                          refine x_iconst X dX11_search_388 ?_
                                          refine x_cv (x_runV (k := 2) (As := [.int (iI (((10 + 50 * st + hh : Nat) : Int))), .int (iI (2))]) (rest := []) X hW (c_X11_copy l E A n _ g8 i (10 + 50 * st + hh) (2) q N5 hi hO (by omega) (by omega) (by omega) hN) (by omega) hO rfl gX11_search_X11_copy rfl rfl rfl (by decide +kernel) ⟨by decide, by decide⟩ rfl hl.1 rfl (Nat.le_of_ble_eq_true rfl) dX11_search_389 ⟨Nat.zero_le _, Nat.zero_le _⟩) hW (fun g_389 H locs hp_389 hW => ?_)
                                          obtain ⟨hN, hf_389⟩ := hp_389
                                          obtain ⟨N_389, hN_389⟩ : ∃ N9 : Nat → Int, N9 = va_up N5 (10 + 50 * st + hh) (N5 (2)) := ⟨_, rfl⟩
                                          rw [← hN_389] at hN
                                          have hO : g_389 i = .inr (11, [.ref (A (i + 1)), .ref (A (i + 2)), .ref (A (i + 3)), .ref (A (i + 4)), .int (iI (q 0)), .ref (A (i + 5)), .ref (A (i + 6)), .ref (A (i + 7)), .ref (A (i + 8)), .int (iI (q 1)), .ref (A (i + 9)), .ref (A (i + 10)), .ref (A (i + 11)), .int (iI (q 2)), .ref (A (i + 12)), .ref (A (i + 13)), .int (iI (q 3)), .ref (A (i + 14)), .ref (A (i + 15)), .ref (A (i + 16)), .int (iI (q 4))]) := by rw [hf_389 _ (by omega)]; exact hO
                                          have h5 : g_389 (i + 5) = aI E 16 f5 := by rw [hf_389 _ (by omega)]; exact h5
                                          have h6 : g_389 (i + 6) = aI E 128 f6 := by rw [hf_389 _ (by omega)]; exact h6
                                          have h7 : g_389 (i + 7) = aI E 128 f7 := by rw [hf_389 _ (by omega)]; exact h7
                                          have h8 : g_389 (i + 8) = aI E 16 f8 := by rw [hf_389 _ (by omega)]; exact h8
                                          have h14 : g_389 (i + 14) = aI E 6 fx := by rw [hf_389 _ (by omega)]; exact h14
                                          have h15 : g_389 (i + 15) = aI E 6 fp := by rw [hf_389 _ (by omega)]; exact h15
                                          have h16 : g_389 (i + 16) = aI E 50 fh := by rw [hf_389 _ (by omega)]; exact h16
                                          have v_10___50___st___hh : N_389 (10 + 50 * st + hh) = cdT (LkM L bx) px xz V st (hd hh) ii (L (bx ii)).length := by rw [hN_389, va_up_self, v_2]
                                          have v_2 : N_389 2 = cdT (LkM L bx) px xz V st (hd hh) ii (L (bx ii)).length := by rw [hN_389, va_up_ne _ _ (by omega)]; exact v_2
                                          have v_3 : N_389 3 = ((prS (LkM L bx) st xz : Nat) : Int) := by rw [hN_389, va_up_ne _ _ (by omega)]; exact v_3
                                          have hotA : ∀ x, (x ≠ 2 ∧ x ≠ 10 + 50 * st + hh) → N_389 x = N3 x := fun x hx => (congrFun hN_389 x).trans ((va_up_ne _ _ (by omega)).trans (hotA x hx))
                                          have hfr : ∀ j, j ≠ i + 1 → g_389 j = gb j := fun j hj => (hf_389 j hj).trans (hfr j hj)
                                          refine lv_iinc (v := iI (((ii + 1 : Nat) : Int))) (lv' := [(5, .int (iI (((ii + 1 : Nat) : Int)))), (0, .ref (A (i))), (2, .int (iI ((sn : Int) - 1))), (3, .int (iI (((hh : Nat) : Int)))), (4, .int (iI (((10 + 50 * st + hh : Nat) : Int)))), (6, .int (iI (((8 * bx ii + u : Nat) : Int))))]) X.1 X.2.1 dX11_search_392 hl (k := 4) rfl (by rw [show (Int32.ofInt (1)) = iI (1) from rfl, iI_add]; rfl) (by decide) rfl (fun ls hl => ?_)
                                          refine lv_goto (tgt := 241) X.1 X.2.1 dX11_search_395 (by decide) ?_
                                          exact ih_241 (ii + 1) N_389 g_389 _ _ _ (by omega) (by omega) hN v_3 (by rw [v_10___50___st___hh, hbn]) hotA hfr hW (lv_sub hl [1, 2, 3, 4, 0] rfl)
                                      · have hu2 : u < (L (bx ii)).length := by omega
                                        obtain ⟨q6, q7, q8, q9⟩ := hbq u hu2
                                        obtain ⟨h0, hh0, hhd⟩ := hHad.2.2.1 (((L (bx ii)).getD u (0, 0)).1 : Nat) (by omega) (Or.inr (cBW_pos (Lx := (LkM L bx)) (show ii < xz by omega) hu2))
                                        refine lv_iload_n X.1 X.2.1 dX11_search_324 rfl (lv_at hl 2 rfl) ?_
                                        refine lv_aload_n X.1 X.2.1 dX11_search_325 rfl (lv_at hl 0 rfl) ?_
                                        refine lv_aload_n X.1 X.2.1 dX11_search_326 rfl (lv_at hl 0 rfl) ?_
                                        refine x_get (C := RX11) (T := TX11) (N := 21) X hW (by omega) hO rfl lk_0 6 (by decide) lk_8 rfl dX11_search_327 ?_
                                        refine lv_iload X.1 X.2.1 dX11_search_330 (lv_at hl 5 rfl) ?_
                                        refine x_iald X hW (by omega) h6 (v := iI ((((((L (bx ii)).getD u (0, 0)).1 : Nat) : Nat) : Int))) (8 * bx ii + u) (by omega) (by omega) (by decide) q6 dX11_search_332 ?_
                                        refine x_seti (((hd h0 : Nat) : Int)) (by rw [hhd]) ?_
                                        refine x_ci (x_runV (k := 1) (As := [.int (iI (((hd h0 : Nat) : Int)))]) (rest := [.int (iI (((hh : Nat) : Int)))]) X hW (c_X11_placeOf l E A n _ g8 i q hc h0 hd fh hi hO h16 (by omega) hh0 hadr hHad.2.1) (by omega) hO rfl gX11_search_X11_placeOf rfl rfl rfl (by decide +kernel) ⟨by decide, by decide⟩ rfl hl.1 rfl (Nat.le_of_ble_eq_true rfl) dX11_search_333 ⟨Nat.zero_le _, Nat.zero_le _⟩) hW (fun r_333 g_333 H locs hp_333 hW => ?_)
                                        obtain ⟨hr_333, he_333⟩ := hp_333
                                        rw [he_333] at hW
                                        subst hr_333
                                        refine x_mmaxi X hl.1 ⟨by omega, by omega⟩ ⟨by omega, by omega⟩ lk_9 lk_10 lk_11 lk_12 (by decide) (Nat.le_of_ble_eq_true rfl) (Nat.zero_le _) (Nat.zero_le _) dX11_search_336 ?_
                                        obtain ⟨mh, hmh⟩ : ∃ mh, mh = (if hh < h0 then h0 else hh) := ⟨_, rfl⟩
                                        have hmc : mh < hc := by rw [hmh]; split <;> omega
                                        have hmv : hd mh = (if hd hh < (((L (bx ii)).getD u (0, 0)).1 : Nat) then (((L (bx ii)).getD u (0, 0)).1 : Nat) else hd hh) := by
                                          rw [hmh, ← hhd]
                                          by_cases h9 : hh < h0
                                          · rw [if_pos h9, if_pos (hHad.2.1 hh h0 h9 hh0)]
                                          · rw [if_neg h9]
                                            by_cases h8 : h0 = hh
                                            · rw [h8, if_neg (Nat.lt_irrefl _)]
                                            · rw [if_neg (by have := hHad.2.1 h0 hh (by omega) (by omega); omega)]
                                        refine x_seti (((mh : Nat) : Int)) (by rw [hmh]; split <;> split <;> omega) ?_
                                        refine lv_istore (lv' := [(7, .int (iI (((mh : Nat) : Int)))), (0, .ref (A (i))), (2, .int (iI ((sn : Int) - 1))), (3, .int (iI (((hh : Nat) : Int)))), (4, .int (iI (((10 + 50 * st + hh : Nat) : Int)))), (5, .int (iI (((ii : Nat) : Int)))), (6, .int (iI (((8 * bx ii + u : Nat) : Int))))]) X.1 X.2.1 dX11_search_339 hl (by decide) rfl (fun ls hl => ?_)
                                        have v_ix : N5 (10 + 50 * (st + 2 ^ ii) + mh) = V (st + 2 ^ ii) (hd mh) := by rw [hotB _ (by omega), wA _ (by omega)]; exact hTo (st + 2 ^ ii) (by omega) hub mh hmc
                                        have hgs : cdT (LkM L bx) px xz V st (hd hh) ii u + V (st + 2 ^ ii) (hd mh) * (((((L (bx ii)).getD u (0, 0)).2 : Nat) : Nat) : Int) = cdT (LkM L bx) px xz V st (hd hh) ii (u + 1) := by rw [hmv]; exact Int.add_assoc _ _ _
                                        have hcr := cd_rng (Lx := (LkM L bx)) (px := px) (xz := xz) hVr (st := st) (x := hd hh) (i := ii) (u := u + 1) hx2 hPS (fun k hk => (hbq k (by omega)).2.2.2) (by omega)
                                        refine lv_aload_n X.1 X.2.1 dX11_search_341 rfl (lv_at hl 1 rfl) ?_
                                        refine x_iconst X dX11_search_342 ?_
                                        refine x_bipush X (by decide) dX11_search_343 ?_
                                        refine x_bipush X (by decide) dX11_search_345 ?_
                                        refine lv_iload_n X.1 X.2.1 dX11_search_347 rfl (lv_at hl 2 rfl) ?_
                                        refine x_seti (((st : Nat) : Int)) (by omega) ?_
                                        refine x_iconst X dX11_search_348 ?_
                                        refine lv_iload X.1 X.2.1 dX11_search_349 (lv_at hl 5 rfl) ?_
                                        refine lv_ishl X.1 X.2.1 dX11_search_351 ?_
                                        refine x_topi (iI (((2 ^ ii : Nat) : Int))) (sl_bit ii (by omega)) ?_
                                        refine lv_ior X.1 X.2.1 dX11_search_352 ?_
                                        refine x_topi (iI (((st + 2 ^ ii : Nat) : Int))) (or_bit ii (by omega) st (by omega) hbit) ?_
                                        refine x_imul X dX11_search_353 ?_
                                        refine x_iadd X dX11_search_354 ?_
                                        refine lv_iload X.1 X.2.1 dX11_search_355 (lv_at hl 0 rfl) ?_
                                        refine x_iadd X dX11_search_357 ?_
                                        refine x_seti (((10 + 50 * (st + 2 ^ ii) + mh : Nat) : Int)) (by omega) ?_
                                        refine lv_aload_n X.1 X.2.1 dX11_search_358 rfl (lv_at hl 1 rfl) ?_
                                        refine x_get (C := RX11) (T := TX11) (N := 21) X hW (by omega) hO rfl lk_0 7 (by decide) lk_13 rfl dX11_search_359 ?_
                                        refine lv_iload X.1 X.2.1 dX11_search_362 (lv_at hl 6 rfl) ?_
                                        refine x_iald X hW (by omega) h7 (v := iI ((((((L (bx ii)).getD u (0, 0)).2 : Nat) : Nat) : Int))) (8 * bx ii + u) (by omega) (by omega) (by decide) q7 dX11_search_364 ?_
                                        refine x_i2l X ⟨by omega, by omega⟩ dX11_search_365 ?_
                                        refine x_cv (x_runV (k := 3) (As := [.int (iI (2)), .int (iI (((10 + 50 * (st + 2 ^ ii) + mh : Nat) : Int))), .long (lI ((((((L (bx ii)).getD u (0, 0)).2 : Nat) : Nat) : Int)))]) (rest := []) X hW (c_X11_more l E A n _ g8 i (2) (10 + 50 * (st + 2 ^ ii) + mh) q N5 ((((((L (bx ii)).getD u (0, 0)).2 : Nat) : Nat) : Int)) hi hO (by omega) (by omega) (by omega) hN (by omega) (by omega) (by rw [v_2, v_ix, hgs]; omega) (by rw [v_2, v_ix, hgs]; omega)) (by omega) hO rfl gX11_search_X11_more rfl rfl rfl (by decide +kernel) ⟨by decide, by decide⟩ rfl hl.1 rfl (Nat.le_of_ble_eq_true rfl) dX11_search_366 ⟨Nat.zero_le _, Nat.zero_le _⟩) hW (fun g_366 H locs hp_366 hW => ?_)
                                        obtain ⟨hN, hf_366⟩ := hp_366
                                        obtain ⟨N_366, hN_366⟩ : ∃ N9 : Nat → Int, N9 = va_up N5 2 (N5 2 + N5 (10 + 50 * (st + 2 ^ ii) + mh) * ((((((L (bx ii)).getD u (0, 0)).2 : Nat) : Nat) : Int))) := ⟨_, rfl⟩
                                        rw [← hN_366] at hN
                                        have hO : g_366 i = .inr (11, [.ref (A (i + 1)), .ref (A (i + 2)), .ref (A (i + 3)), .ref (A (i + 4)), .int (iI (q 0)), .ref (A (i + 5)), .ref (A (i + 6)), .ref (A (i + 7)), .ref (A (i + 8)), .int (iI (q 1)), .ref (A (i + 9)), .ref (A (i + 10)), .ref (A (i + 11)), .int (iI (q 2)), .ref (A (i + 12)), .ref (A (i + 13)), .int (iI (q 3)), .ref (A (i + 14)), .ref (A (i + 15)), .ref (A (i + 16)), .int (iI (q 4))]) := by rw [hf_366 _ (by omega)]; exact hO
                                        have h5 : g_366 (i + 5) = aI E 16 f5 := by rw [hf_366 _ (by omega)]; exact h5
                                        have h6 : g_366 (i + 6) = aI E 128 f6 := by rw [hf_366 _ (by omega)]; exact h6
                                        have h7 : g_366 (i + 7) = aI E 128 f7 := by rw [hf_366 _ (by omega)]; exact h7
                                        have h8 : g_366 (i + 8) = aI E 16 f8 := by rw [hf_366 _ (by omega)]; exact h8
                                        have h14 : g_366 (i + 14) = aI E 6 fx := by rw [hf_366 _ (by omega)]; exact h14
                                        have h15 : g_366 (i + 15) = aI E 6 fp := by rw [hf_366 _ (by omega)]; exact h15
                                        have h16 : g_366 (i + 16) = aI E 50 fh := by rw [hf_366 _ (by omega)]; exact h16
                                        have v_2 : N_366 2 = cdT (LkM L bx) px xz V st (hd hh) ii (u + 1) := by rw [hN_366, va_up_self, v_2, v_ix, hgs]
                                        have v_3 : N_366 3 = ((prS (LkM L bx) st xz : Nat) : Int) := by rw [hN_366, va_up_ne _ _ (by omega)]; exact v_3
                                        have v_10___50___st___hh : N_366 (10 + 50 * st + hh) = blM (LkM L bx) px xz V st (hd hh) ii := by rw [hN_366, va_up_ne _ _ (by omega)]; exact v_10___50___st___hh
                                        have v_ix : N_366 (10 + 50 * (st + 2 ^ ii) + mh) = V (st + 2 ^ ii) (hd mh) := by rw [hN_366, va_up_ne _ _ (by omega)]; exact v_ix
                                        have hotB : ∀ x, x ≠ 2 → N_366 x = N4 x := fun x hx => (congrFun hN_366 x).trans ((va_up_ne _ _ (by omega)).trans (hotB x hx))
                                        have hfr : ∀ j, j ≠ i + 1 → g_366 j = gb j := fun j hj => (hf_366 j hj).trans (hfr j hj)
                                        refine lv_iinc (v := iI (((8 * bx ii + (u + 1) : Nat) : Int))) (lv' := [(6, .int (iI (((8 * bx ii + (u + 1) : Nat) : Int)))), (7, .int (iI (((mh : Nat) : Int)))), (0, .ref (A (i))), (2, .int (iI ((sn : Int) - 1))), (3, .int (iI (((hh : Nat) : Int)))), (4, .int (iI (((10 + 50 * st + hh : Nat) : Int)))), (5, .int (iI (((ii : Nat) : Int))))]) X.1 X.2.1 dX11_search_369 hl (k := 6) rfl (by rw [show (Int32.ofInt (1)) = iI (1) from rfl, iI_add]; first | rfl | (congr 1; omega)) (by decide) rfl (fun ls hl => ?_)
                                        refine lv_goto (tgt := 296) X.1 X.2.1 dX11_search_372 (by decide) ?_
                                        exact ih_296 (u + 1) N_366 g_366 _ _ _ (by omega) (by omega) hN v_2 hotB hfr hW (lv_sub hl [2, 3, 4, 5, 6, 0] rfl)
                                  exact loop_296 _ 0 N_281 g_281 _ _ _ (Nat.lt_succ_self _) (Nat.zero_le _) hN v_2 (fun x hx => by rw [hN_281, va_up_ne _ _ hx, hN_266, va_up_ne _ _ hx]) hfr hW (lv_sub hl [1, 2, 3, 4, 5, 0] rfl)
                                · have hbn : blM (LkM L bx) px xz V st (hd hh) ii = blM (LkM L bx) px xz V st (hd hh) (ii + 1) := by show _ = (if bBit st ii = 0 then _ else blM (LkM L bx) px xz V st (hd hh) ii); rw [if_neg (by omega)]
                                  refine lv_goto (tgt := 392) X.1 X.2.1 dX11_search_260 (by decide) ?_
                                  refine lv_iinc (v := iI (((ii + 1 : Nat) : Int))) (lv' := [(5, .int (iI (((ii + 1 : Nat) : Int)))), (0, .ref (A (i))), (2, .int (iI ((sn : Int) - 1))), (3, .int (iI (((hh : Nat) : Int)))), (4, .int (iI (((10 + 50 * st + hh : Nat) : Int))))]) X.1 X.2.1 dX11_search_392 hl (k := 4) rfl (by rw [show (Int32.ofInt (1)) = iI (1) from rfl, iI_add]; rfl) (by decide) rfl (fun ls hl => ?_)
                                  refine lv_goto (tgt := 241) X.1 X.2.1 dX11_search_395 (by decide) ?_
                                  exact ih_241 (ii + 1) N4 g7 _ _ _ (by omega) (by omega) hN v_3 (by rw [v_10___50___st___hh, hbn]) hotA hfr hW (lv_sub hl [1, 2, 3, 4, 0] rfl)
                          exact loop_241 _ 0 N_235 g_235 _ _ _ (Nat.lt_succ_self _) (Nat.zero_le _) hN v_3 v_10___50___st___hh hotA hfr hW (lv_sub hl [2, 3, 4, 1, 0] rfl)
                    exact loop_198 _ 0 N2 g5 _ _ _ (Nat.lt_succ_self _) (Nat.zero_le _) hN v_3 (fun h hx => absurd hx (Nat.not_lt_zero _)) (fun s2 h1 h2 h h3 => by rw [hot3 _ (by omega)]; exact hT s2 h1 h2 h h3) hfr hW (lv_sub hl [1, 2, 0] rfl)
                  · obtain ⟨hx1, hx2, hx3, hx4⟩ := hxv ii (by omega)
                    obtain ⟨hb1, hb5, hb8, hb9, hbq⟩ := hbv (bx ii) hx1
                    have ht8 : bE (L (bx ii)) (fun _ => 1) ≤ 8000 := hcap0 ii (by omega)
                    have hb01 := bBit_01 st ii
                    have hpl := prS_le (Lx := (LkM L bx)) hcap0 st (ii + 1) (by omega)
                    have hp24 : 8000 ^ (ii + 1) ≤ 8000 ^ 6 := Nat.pow_le_pow_right (by decide) (by omega)
                    refine lv_iload_n X.1 X.2.1 dX11_search_165 rfl (lv_at hl 1 rfl) ?_
                    refine x_seti (((st : Nat) : Int)) (by omega) ?_
                    refine lv_iload_n X.1 X.2.1 dX11_search_166 rfl (lv_at hl 2 rfl) ?_
                    refine lv_ishr X.1 X.2.1 dX11_search_167 ?_
                    refine x_iconst X dX11_search_168 ?_
                    refine lv_iand X.1 X.2.1 dX11_search_169 ?_
                    refine x_topi (iI (((bBit st ii : Nat) : Int))) (sr_bit ii (by omega) st (by omega)) ?_
                    refine x_if_ne (tgt := 190) X ⟨by omega, by omega⟩ dX11_search_170 (by decide) (fun b_170 => ?_) (fun b_170 => ?_)
                    · have hps : prS (LkM L bx) st ii = prS (LkM L bx) st (ii + 1) := by show _ = (if bBit st ii = 0 then prS (LkM L bx) st ii * bE (L (bx ii)) (fun _ => 1) else prS (LkM L bx) st ii); rw [if_neg (by omega)]
                      refine lv_iinc (v := iI (((ii + 1 : Nat) : Int))) (lv' := [(3, .int (iI (((ii + 1 : Nat) : Int)))), (0, .ref (A (i))), (2, .int (iI ((sn : Int) - 1)))]) X.1 X.2.1 dX11_search_190 hl (k := 2) rfl (by rw [show (Int32.ofInt (1)) = iI (1) from rfl, iI_add]; rfl) (by decide) rfl (fun ls hl => ?_)
                      refine lv_goto (tgt := 157) X.1 X.2.1 dX11_search_193 (by decide) ?_
                      exact ih_157 (ii + 1) N2 g5 _ _ _ (by omega) (by omega) hN (by rw [v_3, hps]) hot3 hfr hW (lv_sub hl [1, 2, 0] rfl)
                    · have hps : prS (LkM L bx) st ii * bE (L (bx ii)) (fun _ => 1) = prS (LkM L bx) st (ii + 1) := by show _ = (if bBit st ii = 0 then prS (LkM L bx) st ii * bE (L (bx ii)) (fun _ => 1) else prS (LkM L bx) st ii); rw [if_pos (by omega)]
                      refine lv_aload_n X.1 X.2.1 dX11_search_173 rfl (lv_at hl 0 rfl) ?_
                      refine x_iconst X dX11_search_174 ?_
                      refine lv_aload_n X.1 X.2.1 dX11_search_175 rfl (lv_at hl 0 rfl) ?_
                      refine x_get (C := RX11) (T := TX11) (N := 21) X hW (by omega) hO rfl lk_0 8 (by decide) lk_3 rfl dX11_search_176 ?_
                      refine lv_aload_n X.1 X.2.1 dX11_search_179 rfl (lv_at hl 0 rfl) ?_
                      refine x_get (C := RX11) (T := TX11) (N := 21) X hW (by omega) hO rfl lk_0 17 (by decide) lk_4 rfl dX11_search_180 ?_
                      refine lv_iload_n X.1 X.2.1 dX11_search_183 rfl (lv_at hl 2 rfl) ?_
                      refine x_iald X hW (by omega) h14 (v := iI (((bx ii : Nat) : Int))) ii (by omega) (by omega) (by decide) hx3 dX11_search_184 ?_
                      refine x_iald X hW (by omega) h8 (v := iI (((bE (L (bx ii)) (fun _ => 1) : Nat) : Int))) (bx ii) (by omega) (by omega) (by decide) hb8 dX11_search_185 ?_
                      refine x_i2l X ⟨by omega, by omega⟩ dX11_search_186 ?_
                      refine x_cv (x_runV (k := 2) (As := [.int (iI (3)), .long (lI (((bE (L (bx ii)) (fun _ => 1) : Nat) : Int)))]) (rest := []) X hW (c_X11_times l E A n _ g5 i (3) q N2 (((bE (L (bx ii)) (fun _ => 1) : Nat) : Int)) hi hO (by omega) hN (by omega) (by omega) (by rw [v_3, ← Int.natCast_mul, hps]; omega) (by rw [v_3, ← Int.natCast_mul, hps]; omega)) (by omega) hO rfl gX11_search_X11_times rfl rfl rfl (by decide +kernel) ⟨by decide, by decide⟩ rfl hl.1 rfl (Nat.le_of_ble_eq_true rfl) dX11_search_187 ⟨Nat.zero_le _, Nat.zero_le _⟩) hW (fun g_187 H locs hp_187 hW => ?_)
                      obtain ⟨hN, hf_187⟩ := hp_187
                      obtain ⟨N_187, hN_187⟩ : ∃ N9 : Nat → Int, N9 = va_up N2 3 (N2 3 * (((bE (L (bx ii)) (fun _ => 1) : Nat) : Int))) := ⟨_, rfl⟩
                      rw [← hN_187] at hN
                      have hO : g_187 i = .inr (11, [.ref (A (i + 1)), .ref (A (i + 2)), .ref (A (i + 3)), .ref (A (i + 4)), .int (iI (q 0)), .ref (A (i + 5)), .ref (A (i + 6)), .ref (A (i + 7)), .ref (A (i + 8)), .int (iI (q 1)), .ref (A (i + 9)), .ref (A (i + 10)), .ref (A (i + 11)), .int (iI (q 2)), .ref (A (i + 12)), .ref (A (i + 13)), .int (iI (q 3)), .ref (A (i + 14)), .ref (A (i + 15)), .ref (A (i + 16)), .int (iI (q 4))]) := by rw [hf_187 _ (by omega)]; exact hO
                      have h5 : g_187 (i + 5) = aI E 16 f5 := by rw [hf_187 _ (by omega)]; exact h5
                      have h6 : g_187 (i + 6) = aI E 128 f6 := by rw [hf_187 _ (by omega)]; exact h6
                      have h7 : g_187 (i + 7) = aI E 128 f7 := by rw [hf_187 _ (by omega)]; exact h7
                      have h8 : g_187 (i + 8) = aI E 16 f8 := by rw [hf_187 _ (by omega)]; exact h8
                      have h14 : g_187 (i + 14) = aI E 6 fx := by rw [hf_187 _ (by omega)]; exact h14
                      have h15 : g_187 (i + 15) = aI E 6 fp := by rw [hf_187 _ (by omega)]; exact h15
                      have h16 : g_187 (i + 16) = aI E 50 fh := by rw [hf_187 _ (by omega)]; exact h16
                      have v_3 : N_187 3 = ((prS (LkM L bx) st (ii + 1) : Nat) : Int) := by rw [hN_187, va_up_self, v_3, ← Int.natCast_mul, hps]
                      have hot3 : ∀ x, x ≠ 3 → N_187 x = N1 x := fun x hx => (congrFun hN_187 x).trans ((va_up_ne _ _ (by omega)).trans (hot3 x hx))
                      have hfr : ∀ j, j ≠ i + 1 → g_187 j = gb j := fun j hj => (hf_187 j hj).trans (hfr j hj)
                      refine lv_iinc (v := iI (((ii + 1 : Nat) : Int))) (lv' := [(3, .int (iI (((ii + 1 : Nat) : Int)))), (0, .ref (A (i))), (2, .int (iI ((sn : Int) - 1)))]) X.1 X.2.1 dX11_search_190 hl (k := 2) rfl (by rw [show (Int32.ofInt (1)) = iI (1) from rfl, iI_add]; rfl) (by decide) rfl (fun ls hl => ?_)
                      refine lv_goto (tgt := 157) X.1 X.2.1 dX11_search_193 (by decide) ?_
                      exact ih_157 (ii + 1) N_187 g_187 _ _ _ (by omega) (by omega) hN v_3 hot3 hfr hW (lv_sub hl [1, 2, 0] rfl)
              exact loop_157 _ 0 N_152 g_152 _ _ _ (Nat.lt_succ_self _) (Nat.zero_le _) hN v_3 (fun x hx => by rw [hN_152, va_up_ne _ _ hx]) hfr hW (lv_sub hl [1, 2, 0] rfl)
        exact loop_145 _ (2 ^ xz) N g1 _ _ _ (Nat.lt_succ_self _) (Nat.le_refl _) hN (fun s2 h1 h2 => absurd h1 (by omega)) hfr hW (lv_sub hl [2, 0] rfl)
      · refine lv_iload_n X.1 X.2.1 dX11_search_14 rfl (lv_at hl 1 rfl) ?_
        refine x_if_ne (tgt := 22) X ⟨by omega, by omega⟩ dX11_search_15 (by decide) (fun b_15 => ?_) (fun b_15 => ?_)
        · refine x_iconst X dX11_search_22 ?_
          refine lv_istore_n (lv' := [(2, .int (iI (0))), (0, .ref (A (i))), (1, .int (iI (((w : Nat) : Int))))]) X.1 X.2.1 dX11_search_23 rfl hl (by decide) rfl (fun ls hl => ?_)
          refine x_iconst X dX11_search_24 ?_
          refine x_seti (((0 : Nat) : Int)) rfl ?_
          refine lv_istore_n (lv' := [(3, .int (iI (((0 : Nat) : Int)))), (2, .int (iI (0))), (0, .ref (A (i))), (1, .int (iI (((w : Nat) : Int))))]) X.1 X.2.1 dX11_search_25 rfl hl (by decide) rfl (fun ls hl => ?_)
          have loop_26 : ∀ (fuel : Nat) (ii : Nat) (iv : Nat) (g2 : Nat → va_E) (H : Heap) (locs : List Loc) (ls : Array Slot), (xz - ii) < fuel → (ii ≤ xz) → (iv ≤ 1) → (iv = 1 ↔ (w = 0 ∨ 0 < cBW (LkM L bx) w ii)) → (g2 = g1) → wH E (wF A n sz) A n s_ g2 H locs → lv_has ls 8 [(0, .ref (A (i))), (1, .int (iI (((w : Nat) : Int)))), (2, .int (iI (((iv : Nat) : Int)))), (3, .int (iI (((ii : Nat) : Int))))] → W p_ l e_ ({ frames := 7, cells := 0, slots := 0, locals := 260 } : Room) s_ m_ [.ref (A (i))].toArray below meth c_ H locs 0 0 (MQ below (va_Qv (fun g' => MR E A g' i (rdT (V 0 0) (prT (LkM L bx) xz)) (rdB (V 0 0) (prT (LkM L bx) xz)) ∧ (∃ v : Int, g' i = mO A i (va_up qo 4 v)) ∧ (∃ f : Nat → Int32, g' (i + 16) = aI E 50 f) ∧ ∀ j, (j ≠ i ∧ j ≠ i + 1 ∧ j ≠ i + 16) → g' j = g j) (wAt E A n) (wF A n sz)) [.ref (A (i))].toArray s_ 0 0 (wF A n sz)) (F0 m_ 26 ls []) := by
            intro fuel
            induction fuel with
            | zero => intro ii iv g2 H locs ls hm; exact absurd hm (Nat.not_lt_zero _)
            | succ fuel ih_26 =>
              intro ii iv g2 H locs ls hm hii hiv hiff hgg hW hl
              have hO : g2 i = .inr (11, [.ref (A (i + 1)), .ref (A (i + 2)), .ref (A (i + 3)), .ref (A (i + 4)), .int (iI (qo 0)), .ref (A (i + 5)), .ref (A (i + 6)), .ref (A (i + 7)), .ref (A (i + 8)), .int (iI (qo 1)), .ref (A (i + 9)), .ref (A (i + 10)), .ref (A (i + 11)), .int (iI (qo 2)), .ref (A (i + 12)), .ref (A (i + 13)), .int (iI (qo 3)), .ref (A (i + 14)), .ref (A (i + 15)), .ref (A (i + 16)), .int (iI (((hc : Nat) : Int)))]) := by rw [hgg]; exact hO
              have h5 : g2 (i + 5) = aI E 16 f5 := by rw [hgg]; exact h5
              have h6 : g2 (i + 6) = aI E 128 f6 := by rw [hgg]; exact h6
              have h7 : g2 (i + 7) = aI E 128 f7 := by rw [hgg]; exact h7
              have h8 : g2 (i + 8) = aI E 16 f8 := by rw [hgg]; exact h8
              have h14 : g2 (i + 14) = aI E 6 fx := by rw [hgg]; exact h14
              have h15 : g2 (i + 15) = aI E 6 fp := by rw [hgg]; exact h15
              have h16 : g2 (i + 16) = aI E 50 fh := by rw [hgg]; exact h16
              refine lv_iload_n X.1 X.2.1 dX11_search_26 rfl (lv_at hl 3 rfl) ?_
              refine lv_aload_n X.1 X.2.1 dX11_search_27 rfl (lv_at hl 0 rfl) ?_
              refine x_get (C := RX11) (T := TX11) (N := 21) X hW (by omega) hO rfl lk_0 16 (by decide) lk_2 rfl dX11_search_28 ?_
              refine x_seti ((xz : Int)) hq3o ?_
              refine x_icmp_ge (tgt := 104) X ⟨by omega, by omega⟩ ⟨by omega, by omega⟩ dX11_search_31 (by decide) (fun b_31 => ?_) (fun b_31 => ?_)
              · refine lv_iload_n X.1 X.2.1 dX11_search_104 rfl (lv_at hl 2 rfl) ?_
                refine x_if_eq (tgt := 128) X ⟨by omega, by omega⟩ dX11_search_105 (by decide) (fun b_105 => ?_) (fun b_105 => ?_)
                · have hnp : ¬ (w = 0 ∨ 0 < cBW (LkM L bx) w xz) := by rw [show ii = xz from by omega] at hiff; omega
                  refine lv_iinc (v := iI (((w + 1 : Nat) : Int))) (lv' := [(1, .int (iI (((w + 1 : Nat) : Int)))), (0, .ref (A (i))), (2, .int (iI (((iv : Nat) : Int)))), (3, .int (iI (((ii : Nat) : Int))))]) X.1 X.2.1 dX11_search_128 hl (k := 1) rfl (by rw [show (Int32.ofInt (1)) = iI (1) from rfl, iI_add]; rfl) (by decide) rfl (fun ls hl => ?_)
                  refine lv_goto (tgt := 7) X.1 X.2.1 dX11_search_131 (by decide) ?_
                  exact ih_7 (w + 1) hc fh hd g2 _ _ _ (by omega) (by omega) (hHad.skip hnp) hO h16 (fun j hj => by rw [hgg]; exact hf1 j hj) hW (lv_sub hl [1, 0] rfl)
                · have hyp : w = 0 ∨ 0 < cBW (LkM L bx) w xz := by rw [show ii = xz from by omega] at hiff; omega
                  have hc48 := Nat.le_trans hHad.2.2.2.1 (prN_le (Lx := (LkM L bx)) (xz := xz) (fun k hk => (hok0 k hk).1) w)
                  refine lv_aload_n X.1 X.2.1 dX11_search_108 rfl (lv_at hl 0 rfl) ?_
                  refine x_get (C := RX11) (T := TX11) (N := 21) X hW (by omega) hO rfl lk_0 19 (by decide) lk_5 rfl dX11_search_109 ?_
                  refine lv_aload_n X.1 X.2.1 dX11_search_112 rfl (lv_at hl 0 rfl) ?_
                  refine x_get (C := RX11) (T := TX11) (N := 21) X hW (by omega) hO rfl lk_0 20 (by decide) lk_1 rfl dX11_search_113 ?_
                  refine lv_iload_n X.1 X.2.1 dX11_search_116 rfl (lv_at hl 1 rfl) ?_
                  refine x_iast X hW (by omega) h16 hc (by omega) (by omega) (by decide) dX11_search_117 (fun g_117 H locs hg_117 hW => ?_)
                  have hO : g_117 i = .inr (11, [.ref (A (i + 1)), .ref (A (i + 2)), .ref (A (i + 3)), .ref (A (i + 4)), .int (iI (qo 0)), .ref (A (i + 5)), .ref (A (i + 6)), .ref (A (i + 7)), .ref (A (i + 8)), .int (iI (qo 1)), .ref (A (i + 9)), .ref (A (i + 10)), .ref (A (i + 11)), .int (iI (qo 2)), .ref (A (i + 12)), .ref (A (i + 13)), .int (iI (qo 3)), .ref (A (i + 14)), .ref (A (i + 15)), .ref (A (i + 16)), .int (iI (((hc : Nat) : Int)))]) := by rw [hg_117, va_up_ne _ _ (by omega)]; exact hO
                  have h5 : g_117 (i + 5) = aI E 16 f5 := by rw [hg_117, va_up_ne _ _ (by omega)]; exact h5
                  have h6 : g_117 (i + 6) = aI E 128 f6 := by rw [hg_117, va_up_ne _ _ (by omega)]; exact h6
                  have h7 : g_117 (i + 7) = aI E 128 f7 := by rw [hg_117, va_up_ne _ _ (by omega)]; exact h7
                  have h8 : g_117 (i + 8) = aI E 16 f8 := by rw [hg_117, va_up_ne _ _ (by omega)]; exact h8
                  have h14 : g_117 (i + 14) = aI E 6 fx := by rw [hg_117, va_up_ne _ _ (by omega)]; exact h14
                  have h15 : g_117 (i + 15) = aI E 6 fp := by rw [hg_117, va_up_ne _ _ (by omega)]; exact h15
                  have h16 : g_117 (i + 16) = aI E 50 (upd fh hc (iI (((w : Nat) : Int)))) := by rw [hg_117]; exact va_up_self _ _ _
                  refine lv_aload_n X.1 X.2.1 dX11_search_118 rfl (lv_at hl 0 rfl) ?_
                  refine lv_dup X.1 X.2.1 dX11_search_119 rfl ?_
                  refine x_get (C := RX11) (T := TX11) (N := 21) X hW (by omega) hO rfl lk_0 20 (by decide) lk_1 rfl dX11_search_120 ?_
                  refine x_iconst X dX11_search_123 ?_
                  refine x_iadd X dX11_search_124 ?_
                  refine x_seti (((hc + 1 : Nat) : Int)) (by omega) ?_
                  refine x_put (C := RX11) (T := TX11) (N := 21) X hW (by omega) hO rfl lk_0 tyX11 tyX11_ok nmX11 20 (by decide) lk_1 rfl rfl rfl (Nat.le_of_ble_eq_true rfl) dX11_search_125 (fun g_125 H locs hg_125 hW => ?_)
                  have h5 : g_125 (i + 5) = aI E 16 f5 := by rw [hg_125, va_up_ne _ _ (by omega)]; exact h5
                  have h6 : g_125 (i + 6) = aI E 128 f6 := by rw [hg_125, va_up_ne _ _ (by omega)]; exact h6
                  have h7 : g_125 (i + 7) = aI E 128 f7 := by rw [hg_125, va_up_ne _ _ (by omega)]; exact h7
                  have h8 : g_125 (i + 8) = aI E 16 f8 := by rw [hg_125, va_up_ne _ _ (by omega)]; exact h8
                  have h14 : g_125 (i + 14) = aI E 6 fx := by rw [hg_125, va_up_ne _ _ (by omega)]; exact h14
                  have h15 : g_125 (i + 15) = aI E 6 fp := by rw [hg_125, va_up_ne _ _ (by omega)]; exact h15
                  have h16 : g_125 (i + 16) = aI E 50 (upd fh hc (iI (((w : Nat) : Int)))) := by rw [hg_125, va_up_ne _ _ (by omega)]; exact h16
                  have hO : g_125 i = .inr (11, [.ref (A (i + 1)), .ref (A (i + 2)), .ref (A (i + 3)), .ref (A (i + 4)), .int (iI (qo 0)), .ref (A (i + 5)), .ref (A (i + 6)), .ref (A (i + 7)), .ref (A (i + 8)), .int (iI (qo 1)), .ref (A (i + 9)), .ref (A (i + 10)), .ref (A (i + 11)), .int (iI (qo 2)), .ref (A (i + 12)), .ref (A (i + 13)), .int (iI (qo 3)), .ref (A (i + 14)), .ref (A (i + 15)), .ref (A (i + 16)), .int (iI (((hc + 1 : Nat) : Int)))]) := by rw [hg_125]; exact va_up_self _ _ _
                  refine lv_iinc (v := iI (((w + 1 : Nat) : Int))) (lv' := [(1, .int (iI (((w + 1 : Nat) : Int)))), (0, .ref (A (i))), (2, .int (iI (((iv : Nat) : Int)))), (3, .int (iI (((ii : Nat) : Int))))]) X.1 X.2.1 dX11_search_128 hl (k := 1) rfl (by rw [show (Int32.ofInt (1)) = iI (1) from rfl, iI_add]; rfl) (by decide) rfl (fun ls hl => ?_)
                  refine lv_goto (tgt := 7) X.1 X.2.1 dX11_search_131 (by decide) ?_
                  exact ih_7 (w + 1) (hc + 1) _ (va_up hd hc w) g_125 _ _ _ (by omega) (by omega) (hHad.add hyp) hO h16 (fun j hj => by rw [hg_125, va_up_ne _ _ hj.1, hg_117, va_up_ne _ _ hj.2, hgg]; exact hf1 j hj) hW (lv_sub hl [1, 0] rfl)
              · obtain ⟨hx1, hx2, hx3, hx4⟩ := hxv ii (by omega)
                obtain ⟨hb1, hb5, hb8, hb9, hbq⟩ := hbv (bx ii) hx1
                have ht8 : bE (L (bx ii)) (fun _ => 1) ≤ 8000 := hcap0 ii (by omega)
                have hgg2 := hgg
                refine x_bipush X (by decide) dX11_search_34 ?_
                refine lv_aload_n X.1 X.2.1 dX11_search_36 rfl (lv_at hl 0 rfl) ?_
                refine x_get (C := RX11) (T := TX11) (N := 21) X hW (by omega) hO rfl lk_0 17 (by decide) lk_4 rfl dX11_search_37 ?_
                refine lv_iload_n X.1 X.2.1 dX11_search_40 rfl (lv_at hl 3 rfl) ?_
                refine x_iald X hW (by omega) h14 (v := iI (((bx ii : Nat) : Int))) ii (by omega) (by omega) (by decide) hx3 dX11_search_41 ?_
                refine x_imul X dX11_search_42 ?_
                refine x_seti (((8 * bx ii + 0 : Nat) : Int)) (by omega) ?_
                refine lv_istore (lv' := [(4, .int (iI (((8 * bx ii + 0 : Nat) : Int)))), (0, .ref (A (i))), (1, .int (iI (((w : Nat) : Int)))), (2, .int (iI (((iv : Nat) : Int)))), (3, .int (iI (((ii : Nat) : Int))))]) X.1 X.2.1 dX11_search_43 hl (by decide) rfl (fun ls hl => ?_)
                have loop_45 : ∀ (fuel : Nat) (u : Nat) (iv2 : Nat) (g3 : Nat → va_E) (H : Heap) (locs : List Loc) (ls : Array Slot), ((L (bx ii)).length - u) < fuel → (u ≤ (L (bx ii)).length) → (iv2 ≤ 1) → (iv2 = 1 ↔ ((w = 0 ∨ 0 < cBW (LkM L bx) w ii) ∨ 0 < c1W (L (bx ii)) w u)) → (g3 = g1) → wH E (wF A n sz) A n s_ g3 H locs → lv_has ls 8 [(0, .ref (A (i))), (1, .int (iI (((w : Nat) : Int)))), (2, .int (iI (((iv2 : Nat) : Int)))), (3, .int (iI (((ii : Nat) : Int)))), (4, .int (iI (((8 * bx ii + u : Nat) : Int))))] → W p_ l e_ ({ frames := 7, cells := 0, slots := 0, locals := 260 } : Room) s_ m_ [.ref (A (i))].toArray below meth c_ H locs 0 0 (MQ below (va_Qv (fun g' => MR E A g' i (rdT (V 0 0) (prT (LkM L bx) xz)) (rdB (V 0 0) (prT (LkM L bx) xz)) ∧ (∃ v : Int, g' i = mO A i (va_up qo 4 v)) ∧ (∃ f : Nat → Int32, g' (i + 16) = aI E 50 f) ∧ ∀ j, (j ≠ i ∧ j ≠ i + 1 ∧ j ≠ i + 16) → g' j = g j) (wAt E A n) (wF A n sz)) [.ref (A (i))].toArray s_ 0 0 (wF A n sz)) (F0 m_ 45 ls []) := by
                  intro fuel
                  induction fuel with
                  | zero => intro u iv2 g3 H locs ls hm; exact absurd hm (Nat.not_lt_zero _)
                  | succ fuel ih_45 =>
                    intro u iv2 g3 H locs ls hm hu hiv2 hiff2 hgg hW hl
                    have hO : g3 i = .inr (11, [.ref (A (i + 1)), .ref (A (i + 2)), .ref (A (i + 3)), .ref (A (i + 4)), .int (iI (qo 0)), .ref (A (i + 5)), .ref (A (i + 6)), .ref (A (i + 7)), .ref (A (i + 8)), .int (iI (qo 1)), .ref (A (i + 9)), .ref (A (i + 10)), .ref (A (i + 11)), .int (iI (qo 2)), .ref (A (i + 12)), .ref (A (i + 13)), .int (iI (qo 3)), .ref (A (i + 14)), .ref (A (i + 15)), .ref (A (i + 16)), .int (iI (((hc : Nat) : Int)))]) := by rw [hgg, ← hgg2]; exact hO
                    have h5 : g3 (i + 5) = aI E 16 f5 := by rw [hgg, ← hgg2]; exact h5
                    have h6 : g3 (i + 6) = aI E 128 f6 := by rw [hgg, ← hgg2]; exact h6
                    have h7 : g3 (i + 7) = aI E 128 f7 := by rw [hgg, ← hgg2]; exact h7
                    have h8 : g3 (i + 8) = aI E 16 f8 := by rw [hgg, ← hgg2]; exact h8
                    have h14 : g3 (i + 14) = aI E 6 fx := by rw [hgg, ← hgg2]; exact h14
                    have h15 : g3 (i + 15) = aI E 6 fp := by rw [hgg, ← hgg2]; exact h15
                    have h16 : g3 (i + 16) = aI E 50 fh := by rw [hgg, ← hgg2]; exact h16
                    refine lv_iload X.1 X.2.1 dX11_search_45 (lv_at hl 4 rfl) ?_
                    refine x_bipush X (by decide) dX11_search_47 ?_
                    refine lv_aload_n X.1 X.2.1 dX11_search_49 rfl (lv_at hl 0 rfl) ?_
                    refine x_get (C := RX11) (T := TX11) (N := 21) X hW (by omega) hO rfl lk_0 17 (by decide) lk_4 rfl dX11_search_50 ?_
                    refine lv_iload_n X.1 X.2.1 dX11_search_53 rfl (lv_at hl 3 rfl) ?_
                    refine x_iald X hW (by omega) h14 (v := iI (((bx ii : Nat) : Int))) ii (by omega) (by omega) (by decide) hx3 dX11_search_54 ?_
                    refine x_imul X dX11_search_55 ?_
                    refine lv_aload_n X.1 X.2.1 dX11_search_56 rfl (lv_at hl 0 rfl) ?_
                    refine x_get (C := RX11) (T := TX11) (N := 21) X hW (by omega) hO rfl lk_0 5 (by decide) lk_7 rfl dX11_search_57 ?_
                    refine lv_aload_n X.1 X.2.1 dX11_search_60 rfl (lv_at hl 0 rfl) ?_
                    refine x_get (C := RX11) (T := TX11) (N := 21) X hW (by omega) hO rfl lk_0 17 (by decide) lk_4 rfl dX11_search_61 ?_
                    refine lv_iload_n X.1 X.2.1 dX11_search_64 rfl (lv_at hl 3 rfl) ?_
                    refine x_iald X hW (by omega) h14 (v := iI (((bx ii : Nat) : Int))) ii (by omega) (by omega) (by decide) hx3 dX11_search_65 ?_
                    refine x_iald X hW (by omega) h5 (v := iI ((((L (bx ii)).length : Nat) : Int))) (bx ii) (by omega) (by omega) (by decide) hb5 dX11_search_66 ?_
                    refine x_iadd X dX11_search_67 ?_
                    refine x_icmp_ge (tgt := 98) X ⟨by omega, by omega⟩ ⟨by omega, by omega⟩ dX11_search_68 (by decide) (fun b_68 => ?_) (fun b_68 => ?_)
                    · refine lv_iinc (v := iI (((ii + 1 : Nat) : Int))) (lv' := [(3, .int (iI (((ii + 1 : Nat) : Int)))), (0, .ref (A (i))), (1, .int (iI (((w : Nat) : Int)))), (2, .int (iI (((iv2 : Nat) : Int)))), (4, .int (iI (((8 * bx ii + u : Nat) : Int))))]) X.1 X.2.1 dX11_search_98 hl (k := 3) rfl (by rw [show (Int32.ofInt (1)) = iI (1) from rfl, iI_add]; rfl) (by decide) rfl (fun ls hl => ?_)
                      refine lv_goto (tgt := 26) X.1 X.2.1 dX11_search_101 (by decide) ?_
                      exact ih_26 (ii + 1) iv2 g3 _ _ _ (by omega) (by omega) hiv2 (by show _ ↔ (w = 0 ∨ 0 < cBW (LkM L bx) w ii + c1W (L (bx ii)) w (L (bx ii)).length); rw [show u = (L (bx ii)).length from by omega] at hiff2; omega) hgg hW (lv_sub hl [1, 2, 3, 0] rfl)
                    · have hu2 : u < (L (bx ii)).length := by omega
                      obtain ⟨q6, q7, q8, q9⟩ := hbq u hu2
                      refine lv_iload_n X.1 X.2.1 dX11_search_71 rfl (lv_at hl 2 rfl) ?_
                      refine x_if_ne (tgt := 86) X ⟨by omega, by omega⟩ dX11_search_72 (by decide) (fun b_72 => ?_) (fun b_72 => ?_)
                      · refine x_iconst X dX11_search_86 ?_
                        refine lv_goto (tgt := 91) X.1 X.2.1 dX11_search_87 (by decide) ?_
                        refine lv_istore_n (lv' := [(2, .int (iI (1))), (0, .ref (A (i))), (1, .int (iI (((w : Nat) : Int)))), (3, .int (iI (((ii : Nat) : Int)))), (4, .int (iI (((8 * bx ii + u : Nat) : Int))))]) X.1 X.2.1 dX11_search_91 rfl hl (by decide) rfl (fun ls hl => ?_)
                        refine lv_iinc (v := iI (((8 * bx ii + (u + 1) : Nat) : Int))) (lv' := [(4, .int (iI (((8 * bx ii + (u + 1) : Nat) : Int)))), (2, .int (iI (1))), (0, .ref (A (i))), (1, .int (iI (((w : Nat) : Int)))), (3, .int (iI (((ii : Nat) : Int))))]) X.1 X.2.1 dX11_search_92 hl (k := 4) rfl (by rw [show (Int32.ofInt (1)) = iI (1) from rfl, iI_add]; first | rfl | (congr 1; omega)) (by decide) rfl (fun ls hl => ?_)
                        refine lv_goto (tgt := 45) X.1 X.2.1 dX11_search_95 (by decide) ?_
                        exact ih_45 (u + 1) 1 g3 _ _ _ (by omega) (by omega) (by omega) (by show _ ↔ ((w = 0 ∨ 0 < cBW (LkM L bx) w ii) ∨ 0 < c1W (L (bx ii)) w u + (if (((L (bx ii)).getD u (0, 0)).1 : Nat) = w then 1 else 0)); first | (rw [if_pos (by omega)]; omega) | (rw [if_neg (by omega)]; omega) | (split <;> omega)) hgg hW (lv_sub hl [2, 3, 1, 4, 0] rfl)
                      · refine lv_aload_n X.1 X.2.1 dX11_search_75 rfl (lv_at hl 0 rfl) ?_
                        refine x_get (C := RX11) (T := TX11) (N := 21) X hW (by omega) hO rfl lk_0 6 (by decide) lk_8 rfl dX11_search_76 ?_
                        refine lv_iload X.1 X.2.1 dX11_search_79 (lv_at hl 4 rfl) ?_
                        refine x_iald X hW (by omega) h6 (v := iI ((((((L (bx ii)).getD u (0, 0)).1 : Nat) : Nat) : Int))) (8 * bx ii + u) (by omega) (by omega) (by decide) q6 dX11_search_81 ?_
                        refine lv_iload_n X.1 X.2.1 dX11_search_82 rfl (lv_at hl 1 rfl) ?_
                        refine x_icmp_ne (tgt := 90) X ⟨by omega, by omega⟩ ⟨by omega, by omega⟩ dX11_search_83 (by decide) (fun b_83 => ?_) (fun b_83 => ?_)
                        · refine x_iconst X dX11_search_90 ?_
                          refine lv_istore_n (lv' := [(2, .int (iI (0))), (0, .ref (A (i))), (1, .int (iI (((w : Nat) : Int)))), (3, .int (iI (((ii : Nat) : Int)))), (4, .int (iI (((8 * bx ii + u : Nat) : Int))))]) X.1 X.2.1 dX11_search_91 rfl hl (by decide) rfl (fun ls hl => ?_)
                          refine lv_iinc (v := iI (((8 * bx ii + (u + 1) : Nat) : Int))) (lv' := [(4, .int (iI (((8 * bx ii + (u + 1) : Nat) : Int)))), (2, .int (iI (0))), (0, .ref (A (i))), (1, .int (iI (((w : Nat) : Int)))), (3, .int (iI (((ii : Nat) : Int))))]) X.1 X.2.1 dX11_search_92 hl (k := 4) rfl (by rw [show (Int32.ofInt (1)) = iI (1) from rfl, iI_add]; first | rfl | (congr 1; omega)) (by decide) rfl (fun ls hl => ?_)
                          refine lv_goto (tgt := 45) X.1 X.2.1 dX11_search_95 (by decide) ?_
                          exact ih_45 (u + 1) 0 g3 _ _ _ (by omega) (by omega) (by omega) (by show _ ↔ ((w = 0 ∨ 0 < cBW (LkM L bx) w ii) ∨ 0 < c1W (L (bx ii)) w u + (if (((L (bx ii)).getD u (0, 0)).1 : Nat) = w then 1 else 0)); first | (rw [if_pos (by omega)]; omega) | (rw [if_neg (by omega)]; omega) | (split <;> omega)) hgg hW (lv_sub hl [2, 3, 1, 4, 0] rfl)
                        · refine x_iconst X dX11_search_86 ?_
                          refine lv_goto (tgt := 91) X.1 X.2.1 dX11_search_87 (by decide) ?_
                          refine lv_istore_n (lv' := [(2, .int (iI (1))), (0, .ref (A (i))), (1, .int (iI (((w : Nat) : Int)))), (3, .int (iI (((ii : Nat) : Int)))), (4, .int (iI (((8 * bx ii + u : Nat) : Int))))]) X.1 X.2.1 dX11_search_91 rfl hl (by decide) rfl (fun ls hl => ?_)
                          refine lv_iinc (v := iI (((8 * bx ii + (u + 1) : Nat) : Int))) (lv' := [(4, .int (iI (((8 * bx ii + (u + 1) : Nat) : Int)))), (2, .int (iI (1))), (0, .ref (A (i))), (1, .int (iI (((w : Nat) : Int)))), (3, .int (iI (((ii : Nat) : Int))))]) X.1 X.2.1 dX11_search_92 hl (k := 4) rfl (by rw [show (Int32.ofInt (1)) = iI (1) from rfl, iI_add]; first | rfl | (congr 1; omega)) (by decide) rfl (fun ls hl => ?_)
                          refine lv_goto (tgt := 45) X.1 X.2.1 dX11_search_95 (by decide) ?_
                          exact ih_45 (u + 1) 1 g3 _ _ _ (by omega) (by omega) (by omega) (by show _ ↔ ((w = 0 ∨ 0 < cBW (LkM L bx) w ii) ∨ 0 < c1W (L (bx ii)) w u + (if (((L (bx ii)).getD u (0, 0)).1 : Nat) = w then 1 else 0)); first | (rw [if_pos (by omega)]; omega) | (rw [if_neg (by omega)]; omega) | (split <;> omega)) hgg hW (lv_sub hl [2, 3, 1, 4, 0] rfl)
                exact loop_45 _ 0 iv g2 _ _ _ (Nat.lt_succ_self _) (Nat.zero_le _) hiv (by show _ ↔ ((w = 0 ∨ 0 < cBW (LkM L bx) w ii) ∨ 0 < 0); omega) hgg hW (lv_sub hl [1, 2, 3, 4, 0] rfl)
          exact loop_26 _ 0 0 g1 _ _ _ (Nat.lt_succ_self _) (by omega) (by omega) (by show _ ↔ (w = 0 ∨ 0 < 0); omega) rfl hW (lv_sub hl [2, 3, 1, 0] rfl)
        · refine x_iconst X dX11_search_18 ?_
          refine lv_goto (tgt := 23) X.1 X.2.1 dX11_search_19 (by decide) ?_
          refine lv_istore_n (lv' := [(2, .int (iI (1))), (0, .ref (A (i))), (1, .int (iI (((w : Nat) : Int))))]) X.1 X.2.1 dX11_search_23 rfl hl (by decide) rfl (fun ls hl => ?_)
          refine x_iconst X dX11_search_24 ?_
          refine x_seti (((0 : Nat) : Int)) rfl ?_
          refine lv_istore_n (lv' := [(3, .int (iI (((0 : Nat) : Int)))), (2, .int (iI (1))), (0, .ref (A (i))), (1, .int (iI (((w : Nat) : Int))))]) X.1 X.2.1 dX11_search_25 rfl hl (by decide) rfl (fun ls hl => ?_)
          have loop_26 : ∀ (fuel : Nat) (ii : Nat) (iv : Nat) (g2 : Nat → va_E) (H : Heap) (locs : List Loc) (ls : Array Slot), (xz - ii) < fuel → (ii ≤ xz) → (iv ≤ 1) → (iv = 1 ↔ (w = 0 ∨ 0 < cBW (LkM L bx) w ii)) → (g2 = g1) → wH E (wF A n sz) A n s_ g2 H locs → lv_has ls 8 [(0, .ref (A (i))), (1, .int (iI (((w : Nat) : Int)))), (2, .int (iI (((iv : Nat) : Int)))), (3, .int (iI (((ii : Nat) : Int))))] → W p_ l e_ ({ frames := 7, cells := 0, slots := 0, locals := 260 } : Room) s_ m_ [.ref (A (i))].toArray below meth c_ H locs 0 0 (MQ below (va_Qv (fun g' => MR E A g' i (rdT (V 0 0) (prT (LkM L bx) xz)) (rdB (V 0 0) (prT (LkM L bx) xz)) ∧ (∃ v : Int, g' i = mO A i (va_up qo 4 v)) ∧ (∃ f : Nat → Int32, g' (i + 16) = aI E 50 f) ∧ ∀ j, (j ≠ i ∧ j ≠ i + 1 ∧ j ≠ i + 16) → g' j = g j) (wAt E A n) (wF A n sz)) [.ref (A (i))].toArray s_ 0 0 (wF A n sz)) (F0 m_ 26 ls []) := by
            intro fuel
            induction fuel with
            | zero => intro ii iv g2 H locs ls hm; exact absurd hm (Nat.not_lt_zero _)
            | succ fuel ih_26 =>
              intro ii iv g2 H locs ls hm hii hiv hiff hgg hW hl
              have hO : g2 i = .inr (11, [.ref (A (i + 1)), .ref (A (i + 2)), .ref (A (i + 3)), .ref (A (i + 4)), .int (iI (qo 0)), .ref (A (i + 5)), .ref (A (i + 6)), .ref (A (i + 7)), .ref (A (i + 8)), .int (iI (qo 1)), .ref (A (i + 9)), .ref (A (i + 10)), .ref (A (i + 11)), .int (iI (qo 2)), .ref (A (i + 12)), .ref (A (i + 13)), .int (iI (qo 3)), .ref (A (i + 14)), .ref (A (i + 15)), .ref (A (i + 16)), .int (iI (((hc : Nat) : Int)))]) := by rw [hgg]; exact hO
              have h5 : g2 (i + 5) = aI E 16 f5 := by rw [hgg]; exact h5
              have h6 : g2 (i + 6) = aI E 128 f6 := by rw [hgg]; exact h6
              have h7 : g2 (i + 7) = aI E 128 f7 := by rw [hgg]; exact h7
              have h8 : g2 (i + 8) = aI E 16 f8 := by rw [hgg]; exact h8
              have h14 : g2 (i + 14) = aI E 6 fx := by rw [hgg]; exact h14
              have h15 : g2 (i + 15) = aI E 6 fp := by rw [hgg]; exact h15
              have h16 : g2 (i + 16) = aI E 50 fh := by rw [hgg]; exact h16
              refine lv_iload_n X.1 X.2.1 dX11_search_26 rfl (lv_at hl 3 rfl) ?_
              refine lv_aload_n X.1 X.2.1 dX11_search_27 rfl (lv_at hl 0 rfl) ?_
              refine x_get (C := RX11) (T := TX11) (N := 21) X hW (by omega) hO rfl lk_0 16 (by decide) lk_2 rfl dX11_search_28 ?_
              refine x_seti ((xz : Int)) hq3o ?_
              refine x_icmp_ge (tgt := 104) X ⟨by omega, by omega⟩ ⟨by omega, by omega⟩ dX11_search_31 (by decide) (fun b_31 => ?_) (fun b_31 => ?_)
              · refine lv_iload_n X.1 X.2.1 dX11_search_104 rfl (lv_at hl 2 rfl) ?_
                refine x_if_eq (tgt := 128) X ⟨by omega, by omega⟩ dX11_search_105 (by decide) (fun b_105 => ?_) (fun b_105 => ?_)
                · have hnp : ¬ (w = 0 ∨ 0 < cBW (LkM L bx) w xz) := by rw [show ii = xz from by omega] at hiff; omega
                  refine lv_iinc (v := iI (((w + 1 : Nat) : Int))) (lv' := [(1, .int (iI (((w + 1 : Nat) : Int)))), (0, .ref (A (i))), (2, .int (iI (((iv : Nat) : Int)))), (3, .int (iI (((ii : Nat) : Int))))]) X.1 X.2.1 dX11_search_128 hl (k := 1) rfl (by rw [show (Int32.ofInt (1)) = iI (1) from rfl, iI_add]; rfl) (by decide) rfl (fun ls hl => ?_)
                  refine lv_goto (tgt := 7) X.1 X.2.1 dX11_search_131 (by decide) ?_
                  exact ih_7 (w + 1) hc fh hd g2 _ _ _ (by omega) (by omega) (hHad.skip hnp) hO h16 (fun j hj => by rw [hgg]; exact hf1 j hj) hW (lv_sub hl [1, 0] rfl)
                · have hyp : w = 0 ∨ 0 < cBW (LkM L bx) w xz := by rw [show ii = xz from by omega] at hiff; omega
                  have hc48 := Nat.le_trans hHad.2.2.2.1 (prN_le (Lx := (LkM L bx)) (xz := xz) (fun k hk => (hok0 k hk).1) w)
                  refine lv_aload_n X.1 X.2.1 dX11_search_108 rfl (lv_at hl 0 rfl) ?_
                  refine x_get (C := RX11) (T := TX11) (N := 21) X hW (by omega) hO rfl lk_0 19 (by decide) lk_5 rfl dX11_search_109 ?_
                  refine lv_aload_n X.1 X.2.1 dX11_search_112 rfl (lv_at hl 0 rfl) ?_
                  refine x_get (C := RX11) (T := TX11) (N := 21) X hW (by omega) hO rfl lk_0 20 (by decide) lk_1 rfl dX11_search_113 ?_
                  refine lv_iload_n X.1 X.2.1 dX11_search_116 rfl (lv_at hl 1 rfl) ?_
                  refine x_iast X hW (by omega) h16 hc (by omega) (by omega) (by decide) dX11_search_117 (fun g_117 H locs hg_117 hW => ?_)
                  have hO : g_117 i = .inr (11, [.ref (A (i + 1)), .ref (A (i + 2)), .ref (A (i + 3)), .ref (A (i + 4)), .int (iI (qo 0)), .ref (A (i + 5)), .ref (A (i + 6)), .ref (A (i + 7)), .ref (A (i + 8)), .int (iI (qo 1)), .ref (A (i + 9)), .ref (A (i + 10)), .ref (A (i + 11)), .int (iI (qo 2)), .ref (A (i + 12)), .ref (A (i + 13)), .int (iI (qo 3)), .ref (A (i + 14)), .ref (A (i + 15)), .ref (A (i + 16)), .int (iI (((hc : Nat) : Int)))]) := by rw [hg_117, va_up_ne _ _ (by omega)]; exact hO
                  have h5 : g_117 (i + 5) = aI E 16 f5 := by rw [hg_117, va_up_ne _ _ (by omega)]; exact h5
                  have h6 : g_117 (i + 6) = aI E 128 f6 := by rw [hg_117, va_up_ne _ _ (by omega)]; exact h6
                  have h7 : g_117 (i + 7) = aI E 128 f7 := by rw [hg_117, va_up_ne _ _ (by omega)]; exact h7
                  have h8 : g_117 (i + 8) = aI E 16 f8 := by rw [hg_117, va_up_ne _ _ (by omega)]; exact h8
                  have h14 : g_117 (i + 14) = aI E 6 fx := by rw [hg_117, va_up_ne _ _ (by omega)]; exact h14
                  have h15 : g_117 (i + 15) = aI E 6 fp := by rw [hg_117, va_up_ne _ _ (by omega)]; exact h15
                  have h16 : g_117 (i + 16) = aI E 50 (upd fh hc (iI (((w : Nat) : Int)))) := by rw [hg_117]; exact va_up_self _ _ _
                  refine lv_aload_n X.1 X.2.1 dX11_search_118 rfl (lv_at hl 0 rfl) ?_
                  refine lv_dup X.1 X.2.1 dX11_search_119 rfl ?_
                  refine x_get (C := RX11) (T := TX11) (N := 21) X hW (by omega) hO rfl lk_0 20 (by decide) lk_1 rfl dX11_search_120 ?_
                  refine x_iconst X dX11_search_123 ?_
                  refine x_iadd X dX11_search_124 ?_
                  refine x_seti (((hc + 1 : Nat) : Int)) (by omega) ?_
                  refine x_put (C := RX11) (T := TX11) (N := 21) X hW (by omega) hO rfl lk_0 tyX11 tyX11_ok nmX11 20 (by decide) lk_1 rfl rfl rfl (Nat.le_of_ble_eq_true rfl) dX11_search_125 (fun g_125 H locs hg_125 hW => ?_)
                  have h5 : g_125 (i + 5) = aI E 16 f5 := by rw [hg_125, va_up_ne _ _ (by omega)]; exact h5
                  have h6 : g_125 (i + 6) = aI E 128 f6 := by rw [hg_125, va_up_ne _ _ (by omega)]; exact h6
                  have h7 : g_125 (i + 7) = aI E 128 f7 := by rw [hg_125, va_up_ne _ _ (by omega)]; exact h7
                  have h8 : g_125 (i + 8) = aI E 16 f8 := by rw [hg_125, va_up_ne _ _ (by omega)]; exact h8
                  have h14 : g_125 (i + 14) = aI E 6 fx := by rw [hg_125, va_up_ne _ _ (by omega)]; exact h14
                  have h15 : g_125 (i + 15) = aI E 6 fp := by rw [hg_125, va_up_ne _ _ (by omega)]; exact h15
                  have h16 : g_125 (i + 16) = aI E 50 (upd fh hc (iI (((w : Nat) : Int)))) := by rw [hg_125, va_up_ne _ _ (by omega)]; exact h16
                  have hO : g_125 i = .inr (11, [.ref (A (i + 1)), .ref (A (i + 2)), .ref (A (i + 3)), .ref (A (i + 4)), .int (iI (qo 0)), .ref (A (i + 5)), .ref (A (i + 6)), .ref (A (i + 7)), .ref (A (i + 8)), .int (iI (qo 1)), .ref (A (i + 9)), .ref (A (i + 10)), .ref (A (i + 11)), .int (iI (qo 2)), .ref (A (i + 12)), .ref (A (i + 13)), .int (iI (qo 3)), .ref (A (i + 14)), .ref (A (i + 15)), .ref (A (i + 16)), .int (iI (((hc + 1 : Nat) : Int)))]) := by rw [hg_125]; exact va_up_self _ _ _
                  refine lv_iinc (v := iI (((w + 1 : Nat) : Int))) (lv' := [(1, .int (iI (((w + 1 : Nat) : Int)))), (0, .ref (A (i))), (2, .int (iI (((iv : Nat) : Int)))), (3, .int (iI (((ii : Nat) : Int))))]) X.1 X.2.1 dX11_search_128 hl (k := 1) rfl (by rw [show (Int32.ofInt (1)) = iI (1) from rfl, iI_add]; rfl) (by decide) rfl (fun ls hl => ?_)
                  refine lv_goto (tgt := 7) X.1 X.2.1 dX11_search_131 (by decide) ?_
                  exact ih_7 (w + 1) (hc + 1) _ (va_up hd hc w) g_125 _ _ _ (by omega) (by omega) (hHad.add hyp) hO h16 (fun j hj => by rw [hg_125, va_up_ne _ _ hj.1, hg_117, va_up_ne _ _ hj.2, hgg]; exact hf1 j hj) hW (lv_sub hl [1, 0] rfl)
              · obtain ⟨hx1, hx2, hx3, hx4⟩ := hxv ii (by omega)
                obtain ⟨hb1, hb5, hb8, hb9, hbq⟩ := hbv (bx ii) hx1
                have ht8 : bE (L (bx ii)) (fun _ => 1) ≤ 8000 := hcap0 ii (by omega)
                have hgg2 := hgg
                refine x_bipush X (by decide) dX11_search_34 ?_
                refine lv_aload_n X.1 X.2.1 dX11_search_36 rfl (lv_at hl 0 rfl) ?_
                refine x_get (C := RX11) (T := TX11) (N := 21) X hW (by omega) hO rfl lk_0 17 (by decide) lk_4 rfl dX11_search_37 ?_
                refine lv_iload_n X.1 X.2.1 dX11_search_40 rfl (lv_at hl 3 rfl) ?_
                refine x_iald X hW (by omega) h14 (v := iI (((bx ii : Nat) : Int))) ii (by omega) (by omega) (by decide) hx3 dX11_search_41 ?_
                refine x_imul X dX11_search_42 ?_
                refine x_seti (((8 * bx ii + 0 : Nat) : Int)) (by omega) ?_
                refine lv_istore (lv' := [(4, .int (iI (((8 * bx ii + 0 : Nat) : Int)))), (0, .ref (A (i))), (1, .int (iI (((w : Nat) : Int)))), (2, .int (iI (((iv : Nat) : Int)))), (3, .int (iI (((ii : Nat) : Int))))]) X.1 X.2.1 dX11_search_43 hl (by decide) rfl (fun ls hl => ?_)
                have loop_45 : ∀ (fuel : Nat) (u : Nat) (iv2 : Nat) (g3 : Nat → va_E) (H : Heap) (locs : List Loc) (ls : Array Slot), ((L (bx ii)).length - u) < fuel → (u ≤ (L (bx ii)).length) → (iv2 ≤ 1) → (iv2 = 1 ↔ ((w = 0 ∨ 0 < cBW (LkM L bx) w ii) ∨ 0 < c1W (L (bx ii)) w u)) → (g3 = g1) → wH E (wF A n sz) A n s_ g3 H locs → lv_has ls 8 [(0, .ref (A (i))), (1, .int (iI (((w : Nat) : Int)))), (2, .int (iI (((iv2 : Nat) : Int)))), (3, .int (iI (((ii : Nat) : Int)))), (4, .int (iI (((8 * bx ii + u : Nat) : Int))))] → W p_ l e_ ({ frames := 7, cells := 0, slots := 0, locals := 260 } : Room) s_ m_ [.ref (A (i))].toArray below meth c_ H locs 0 0 (MQ below (va_Qv (fun g' => MR E A g' i (rdT (V 0 0) (prT (LkM L bx) xz)) (rdB (V 0 0) (prT (LkM L bx) xz)) ∧ (∃ v : Int, g' i = mO A i (va_up qo 4 v)) ∧ (∃ f : Nat → Int32, g' (i + 16) = aI E 50 f) ∧ ∀ j, (j ≠ i ∧ j ≠ i + 1 ∧ j ≠ i + 16) → g' j = g j) (wAt E A n) (wF A n sz)) [.ref (A (i))].toArray s_ 0 0 (wF A n sz)) (F0 m_ 45 ls []) := by
                  intro fuel
                  induction fuel with
                  | zero => intro u iv2 g3 H locs ls hm; exact absurd hm (Nat.not_lt_zero _)
                  | succ fuel ih_45 =>
                    intro u iv2 g3 H locs ls hm hu hiv2 hiff2 hgg hW hl
                    have hO : g3 i = .inr (11, [.ref (A (i + 1)), .ref (A (i + 2)), .ref (A (i + 3)), .ref (A (i + 4)), .int (iI (qo 0)), .ref (A (i + 5)), .ref (A (i + 6)), .ref (A (i + 7)), .ref (A (i + 8)), .int (iI (qo 1)), .ref (A (i + 9)), .ref (A (i + 10)), .ref (A (i + 11)), .int (iI (qo 2)), .ref (A (i + 12)), .ref (A (i + 13)), .int (iI (qo 3)), .ref (A (i + 14)), .ref (A (i + 15)), .ref (A (i + 16)), .int (iI (((hc : Nat) : Int)))]) := by rw [hgg, ← hgg2]; exact hO
                    have h5 : g3 (i + 5) = aI E 16 f5 := by rw [hgg, ← hgg2]; exact h5
                    have h6 : g3 (i + 6) = aI E 128 f6 := by rw [hgg, ← hgg2]; exact h6
                    have h7 : g3 (i + 7) = aI E 128 f7 := by rw [hgg, ← hgg2]; exact h7
                    have h8 : g3 (i + 8) = aI E 16 f8 := by rw [hgg, ← hgg2]; exact h8
                    have h14 : g3 (i + 14) = aI E 6 fx := by rw [hgg, ← hgg2]; exact h14
                    have h15 : g3 (i + 15) = aI E 6 fp := by rw [hgg, ← hgg2]; exact h15
                    have h16 : g3 (i + 16) = aI E 50 fh := by rw [hgg, ← hgg2]; exact h16
                    refine lv_iload X.1 X.2.1 dX11_search_45 (lv_at hl 4 rfl) ?_
                    refine x_bipush X (by decide) dX11_search_47 ?_
                    refine lv_aload_n X.1 X.2.1 dX11_search_49 rfl (lv_at hl 0 rfl) ?_
                    refine x_get (C := RX11) (T := TX11) (N := 21) X hW (by omega) hO rfl lk_0 17 (by decide) lk_4 rfl dX11_search_50 ?_
                    refine lv_iload_n X.1 X.2.1 dX11_search_53 rfl (lv_at hl 3 rfl) ?_
                    refine x_iald X hW (by omega) h14 (v := iI (((bx ii : Nat) : Int))) ii (by omega) (by omega) (by decide) hx3 dX11_search_54 ?_
                    refine x_imul X dX11_search_55 ?_
                    refine lv_aload_n X.1 X.2.1 dX11_search_56 rfl (lv_at hl 0 rfl) ?_
                    refine x_get (C := RX11) (T := TX11) (N := 21) X hW (by omega) hO rfl lk_0 5 (by decide) lk_7 rfl dX11_search_57 ?_
                    refine lv_aload_n X.1 X.2.1 dX11_search_60 rfl (lv_at hl 0 rfl) ?_
                    refine x_get (C := RX11) (T := TX11) (N := 21) X hW (by omega) hO rfl lk_0 17 (by decide) lk_4 rfl dX11_search_61 ?_
                    refine lv_iload_n X.1 X.2.1 dX11_search_64 rfl (lv_at hl 3 rfl) ?_
                    refine x_iald X hW (by omega) h14 (v := iI (((bx ii : Nat) : Int))) ii (by omega) (by omega) (by decide) hx3 dX11_search_65 ?_
                    refine x_iald X hW (by omega) h5 (v := iI ((((L (bx ii)).length : Nat) : Int))) (bx ii) (by omega) (by omega) (by decide) hb5 dX11_search_66 ?_
                    refine x_iadd X dX11_search_67 ?_
                    refine x_icmp_ge (tgt := 98) X ⟨by omega, by omega⟩ ⟨by omega, by omega⟩ dX11_search_68 (by decide) (fun b_68 => ?_) (fun b_68 => ?_)
                    · refine lv_iinc (v := iI (((ii + 1 : Nat) : Int))) (lv' := [(3, .int (iI (((ii + 1 : Nat) : Int)))), (0, .ref (A (i))), (1, .int (iI (((w : Nat) : Int)))), (2, .int (iI (((iv2 : Nat) : Int)))), (4, .int (iI (((8 * bx ii + u : Nat) : Int))))]) X.1 X.2.1 dX11_search_98 hl (k := 3) rfl (by rw [show (Int32.ofInt (1)) = iI (1) from rfl, iI_add]; rfl) (by decide) rfl (fun ls hl => ?_)
                      refine lv_goto (tgt := 26) X.1 X.2.1 dX11_search_101 (by decide) ?_
                      exact ih_26 (ii + 1) iv2 g3 _ _ _ (by omega) (by omega) hiv2 (by show _ ↔ (w = 0 ∨ 0 < cBW (LkM L bx) w ii + c1W (L (bx ii)) w (L (bx ii)).length); rw [show u = (L (bx ii)).length from by omega] at hiff2; omega) hgg hW (lv_sub hl [1, 2, 3, 0] rfl)
                    · have hu2 : u < (L (bx ii)).length := by omega
                      obtain ⟨q6, q7, q8, q9⟩ := hbq u hu2
                      refine lv_iload_n X.1 X.2.1 dX11_search_71 rfl (lv_at hl 2 rfl) ?_
                      refine x_if_ne (tgt := 86) X ⟨by omega, by omega⟩ dX11_search_72 (by decide) (fun b_72 => ?_) (fun b_72 => ?_)
                      · refine x_iconst X dX11_search_86 ?_
                        refine lv_goto (tgt := 91) X.1 X.2.1 dX11_search_87 (by decide) ?_
                        refine lv_istore_n (lv' := [(2, .int (iI (1))), (0, .ref (A (i))), (1, .int (iI (((w : Nat) : Int)))), (3, .int (iI (((ii : Nat) : Int)))), (4, .int (iI (((8 * bx ii + u : Nat) : Int))))]) X.1 X.2.1 dX11_search_91 rfl hl (by decide) rfl (fun ls hl => ?_)
                        refine lv_iinc (v := iI (((8 * bx ii + (u + 1) : Nat) : Int))) (lv' := [(4, .int (iI (((8 * bx ii + (u + 1) : Nat) : Int)))), (2, .int (iI (1))), (0, .ref (A (i))), (1, .int (iI (((w : Nat) : Int)))), (3, .int (iI (((ii : Nat) : Int))))]) X.1 X.2.1 dX11_search_92 hl (k := 4) rfl (by rw [show (Int32.ofInt (1)) = iI (1) from rfl, iI_add]; first | rfl | (congr 1; omega)) (by decide) rfl (fun ls hl => ?_)
                        refine lv_goto (tgt := 45) X.1 X.2.1 dX11_search_95 (by decide) ?_
                        exact ih_45 (u + 1) 1 g3 _ _ _ (by omega) (by omega) (by omega) (by show _ ↔ ((w = 0 ∨ 0 < cBW (LkM L bx) w ii) ∨ 0 < c1W (L (bx ii)) w u + (if (((L (bx ii)).getD u (0, 0)).1 : Nat) = w then 1 else 0)); first | (rw [if_pos (by omega)]; omega) | (rw [if_neg (by omega)]; omega) | (split <;> omega)) hgg hW (lv_sub hl [2, 3, 1, 4, 0] rfl)
                      · refine lv_aload_n X.1 X.2.1 dX11_search_75 rfl (lv_at hl 0 rfl) ?_
                        refine x_get (C := RX11) (T := TX11) (N := 21) X hW (by omega) hO rfl lk_0 6 (by decide) lk_8 rfl dX11_search_76 ?_
                        refine lv_iload X.1 X.2.1 dX11_search_79 (lv_at hl 4 rfl) ?_
                        refine x_iald X hW (by omega) h6 (v := iI ((((((L (bx ii)).getD u (0, 0)).1 : Nat) : Nat) : Int))) (8 * bx ii + u) (by omega) (by omega) (by decide) q6 dX11_search_81 ?_
                        refine lv_iload_n X.1 X.2.1 dX11_search_82 rfl (lv_at hl 1 rfl) ?_
                        refine x_icmp_ne (tgt := 90) X ⟨by omega, by omega⟩ ⟨by omega, by omega⟩ dX11_search_83 (by decide) (fun b_83 => ?_) (fun b_83 => ?_)
                        · refine x_iconst X dX11_search_90 ?_
                          refine lv_istore_n (lv' := [(2, .int (iI (0))), (0, .ref (A (i))), (1, .int (iI (((w : Nat) : Int)))), (3, .int (iI (((ii : Nat) : Int)))), (4, .int (iI (((8 * bx ii + u : Nat) : Int))))]) X.1 X.2.1 dX11_search_91 rfl hl (by decide) rfl (fun ls hl => ?_)
                          refine lv_iinc (v := iI (((8 * bx ii + (u + 1) : Nat) : Int))) (lv' := [(4, .int (iI (((8 * bx ii + (u + 1) : Nat) : Int)))), (2, .int (iI (0))), (0, .ref (A (i))), (1, .int (iI (((w : Nat) : Int)))), (3, .int (iI (((ii : Nat) : Int))))]) X.1 X.2.1 dX11_search_92 hl (k := 4) rfl (by rw [show (Int32.ofInt (1)) = iI (1) from rfl, iI_add]; first | rfl | (congr 1; omega)) (by decide) rfl (fun ls hl => ?_)
                          refine lv_goto (tgt := 45) X.1 X.2.1 dX11_search_95 (by decide) ?_
                          exact ih_45 (u + 1) 0 g3 _ _ _ (by omega) (by omega) (by omega) (by show _ ↔ ((w = 0 ∨ 0 < cBW (LkM L bx) w ii) ∨ 0 < c1W (L (bx ii)) w u + (if (((L (bx ii)).getD u (0, 0)).1 : Nat) = w then 1 else 0)); first | (rw [if_pos (by omega)]; omega) | (rw [if_neg (by omega)]; omega) | (split <;> omega)) hgg hW (lv_sub hl [2, 3, 1, 4, 0] rfl)
                        · refine x_iconst X dX11_search_86 ?_
                          refine lv_goto (tgt := 91) X.1 X.2.1 dX11_search_87 (by decide) ?_
                          refine lv_istore_n (lv' := [(2, .int (iI (1))), (0, .ref (A (i))), (1, .int (iI (((w : Nat) : Int)))), (3, .int (iI (((ii : Nat) : Int)))), (4, .int (iI (((8 * bx ii + u : Nat) : Int))))]) X.1 X.2.1 dX11_search_91 rfl hl (by decide) rfl (fun ls hl => ?_)
                          refine lv_iinc (v := iI (((8 * bx ii + (u + 1) : Nat) : Int))) (lv' := [(4, .int (iI (((8 * bx ii + (u + 1) : Nat) : Int)))), (2, .int (iI (1))), (0, .ref (A (i))), (1, .int (iI (((w : Nat) : Int)))), (3, .int (iI (((ii : Nat) : Int))))]) X.1 X.2.1 dX11_search_92 hl (k := 4) rfl (by rw [show (Int32.ofInt (1)) = iI (1) from rfl, iI_add]; first | rfl | (congr 1; omega)) (by decide) rfl (fun ls hl => ?_)
                          refine lv_goto (tgt := 45) X.1 X.2.1 dX11_search_95 (by decide) ?_
                          exact ih_45 (u + 1) 1 g3 _ _ _ (by omega) (by omega) (by omega) (by show _ ↔ ((w = 0 ∨ 0 < cBW (LkM L bx) w ii) ∨ 0 < c1W (L (bx ii)) w u + (if (((L (bx ii)).getD u (0, 0)).1 : Nat) = w then 1 else 0)); first | (rw [if_pos (by omega)]; omega) | (rw [if_neg (by omega)]; omega) | (split <;> omega)) hgg hW (lv_sub hl [2, 3, 1, 4, 0] rfl)
                exact loop_45 _ 0 iv g2 _ _ _ (Nat.lt_succ_self _) (Nat.zero_le _) hiv (by show _ ↔ ((w = 0 ∨ 0 < cBW (LkM L bx) w ii) ∨ 0 < 0); omega) hgg hW (lv_sub hl [1, 2, 3, 4, 0] rfl)
          exact loop_26 _ 0 1 g1 _ _ _ (Nat.lt_succ_self _) (by omega) (by omega) (by show _ ↔ (w = 0 ∨ 0 < 0); omega) rfl hW (lv_sub hl [2, 3, 1, 0] rfl)
  exact loop_7 _ 0 0 fh0 ((fun _ => 0)) g_2 _ _ _ (Nat.lt_succ_self _) (by omega) ⟨fun h hh => absurd hh (Nat.not_lt_zero _), fun a b _ hb => absurd hb (Nat.not_lt_zero _), fun y hy => absurd hy (Nat.not_lt_zero _), Nat.zero_le _, fun h => absurd h (Nat.lt_irrefl _)⟩ hO h16 (fun j hj => by rw [hg_2, va_up_ne _ _ hj.1, hgo]) hW (lv_sub hl [1, 0] rfl)
