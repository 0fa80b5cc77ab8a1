theorem sh_up {f f2 : Nat → Int32} {k t bz : Nat} {z : Int32} (hf2 : ∀ j, f2 j = if k < j ∧ j ≤ bz then f (j - 1) else f j) (ht : k = t + 1) (hk : k ≤ bz) (hz : z = f t) : ∀ j, upd f2 k z j = if t < j ∧ j ≤ bz then f (j - 1) else f j := by
  intro j
  by_cases e : j = k
  · rw [e, pk_us, if_pos ⟨by omega, hk⟩, hz, ht, Nat.add_sub_cancel]
  · rw [pk_un e, hf2 j]
    by_cases q : k < j ∧ j ≤ bz
    · rw [if_pos q, if_pos ⟨by omega, q.2⟩]
    · rw [if_neg q, if_neg (by omega)]
theorem sh_fin {f f2 : Nat → Int32} {k q bz : Nat} {wo : Nat → Nat} {w : Nat} (hf2 : ∀ j, f2 j = if k < j ∧ j ≤ bz then f (j - 1) else f j) (hk : k = q) (hqb : q ≤ bz) (hf : ∀ j, j < bz → f j = iI ((wo j : Nat) : Int)) {j : Nat} (hj : j < bz + 1) : upd f2 q (iI ((w : Nat) : Int)) j = iI ((ins wo q w j : Nat) : Int) := by
  rcases Nat.lt_trichotomy j q with e | e | e
  · rw [pk_un (by omega), ins_lt e, hf2, if_neg (by omega)]
    exact hf j (by omega)
  · rw [e, pk_us, ins_eq]
  · rw [pk_un (by omega), ins_gt e, hf2, if_pos ⟨by omega, by omega⟩]; exact hf (j - 1) (by omega)

set_option maxHeartbeats 4000000 in
set_option maxRecDepth 100000 in
/-- addPair -/
theorem c_X0_addPair (l : Launch) (E : wE) (A : Nat → Nat) (n sz : Nat) (g : Nat → va_E) (i bz : Nat) (wo we : Nat → Nat) (tot : Nat) (L : List (Nat × Nat)) (w wt : Nat) (hi : i + 2 < n) (hC : BookC E A g i bz wo we tot) (hp : BookP bz wo we tot L) (hbz : bz < 8) (hw : w ≤ 1000) (hwt : wt ≤ 1000) (htt : tot + wt ≤ 8000) : Met l yX0_addPair wsX0_addPair ({ frames := 1, cells := 0, slots := 0, locals := 30 } : Room) (va_Pc [.ref (A (i)), .int (iI ((w : Int))), .int (iI ((wt : Int)))] (wPre E A n sz g)) (va_Qv (fun g' => (∃ (bz' : Nat) (wo' we' : Nat → Nat), BookC E A g' i bz' wo' we' (tot + wt) ∧ BookP bz' wo' we' (tot + wt) (L ++ [(w, wt)]) ∧ bz' ≤ bz + 1) ∧ ∀ j, (j < i ∨ i + 2 < j) → g' j = g j) (wAt E A n) (wF A n sz)) 0 0 (wF A n sz) := by
  refine x_met (cc := cX0_addPair) (maxL := 5) (ret := none) [.ref (A (i)), .int (iI ((w : Int))), .int (iI ((wt : Int)))] (by decide) rfl (Nat.le_of_ble_eq_true rfl) ?_
  intro p e s m below meth c ls X hr hlk hnm hsz hW hl
  have hl : lv_has ls 5 [(0, .ref (A (i))), (1, .int (iI ((w : Int)))), (2, .int (iI ((wt : Int))))] := hl
  have lk_0 : ∀ w ∈ wsX00, w ∈ wsX0_addPair := by decide +kernel
  have lk_1 : Cond.fieldLink RX0 18 (TX0 2).1 (TX0 2).2.1 (TX0 2).2.2.1 ∈ wsX0_addPair := by decide +kernel
  have lk_2 : Cond.fieldLink RX0 22 (TX0 3).1 (TX0 3).2.1 (TX0 3).2.2.1 ∈ wsX0_addPair := by decide +kernel
  have lk_3 : Cond.fieldLink RX0 9 (TX0 0).1 (TX0 0).2.1 (TX0 0).2.2.1 ∈ wsX0_addPair := by decide +kernel
  have lk_4 : Cond.fieldLink RX0 15 (TX0 1).1 (TX0 1).2.1 (TX0 1).2.2.1 ∈ wsX0_addPair := by decide +kernel
  have hC0 := hC
  obtain ⟨h0, hs8, f, h, h1, h2, hf⟩ := hC
  refine lv_iload_n X.1 X.2.1 dX0_addPair_0 rfl (lv_at hl 2 rfl) ?_
  refine x_if_eq (tgt := 13) X ⟨by omega, by omega⟩ dX0_addPair_1 (by decide) (fun b_1 => ?_) (fun b_1 => ?_)
  · have hz : wt = 0 := by omega
    exact x_vret X hr hlk hW (⟨⟨bz, wo, we, by rw [hz]; exact hC0, by rw [hz]; exact hp.zero w, by omega⟩, fun _ _ => rfl⟩) dX0_addPair_13
  · refine lv_aload_n X.1 X.2.1 dX0_addPair_4 rfl (lv_at hl 0 rfl) ?_
    refine x_get (C := RX0) (T := TX0) (N := 4) X hW (by omega) h0 rfl lk_0 2 (by decide) lk_1 rfl dX0_addPair_5 ?_
    refine x_bipush X (by decide) dX0_addPair_8 ?_
    refine x_icmp_lt (tgt := 14) X ⟨by omega, by omega⟩ ⟨by decide, by decide⟩ dX0_addPair_10 (by decide) (fun b_10 => ?_) (fun b_10 => ?_)
    · refine lv_aload_n X.1 X.2.1 dX0_addPair_14 rfl (lv_at hl 0 rfl) ?_
      refine lv_dup X.1 X.2.1 dX0_addPair_15 rfl ?_
      refine x_get (C := RX0) (T := TX0) (N := 4) X hW (by omega) h0 rfl lk_0 3 (by decide) lk_2 rfl dX0_addPair_16 ?_
      refine lv_iload_n X.1 X.2.1 dX0_addPair_19 rfl (lv_at hl 2 rfl) ?_
      refine x_iadd X dX0_addPair_20 ?_
      refine x_seti (((tot + wt : Nat) : Int)) (by omega) ?_
      refine x_put (C := RX0) (T := TX0) (N := 4) X hW (by omega) h0 rfl lk_0 tyX0 tyX0_ok nmX0 3 (by decide) lk_2 rfl rfl rfl (Nat.le_of_ble_eq_true rfl) dX0_addPair_21 (fun g_21 H locs hg_21 hW => ?_)
      have h1 : g_21 (i + 1) = aI E 8 f := by rw [hg_21, va_up_ne _ _ (by omega)]; exact h1
      have h2 : g_21 (i + 2) = aI E 8 h := by rw [hg_21, va_up_ne _ _ (by omega)]; exact h2
      have h0 : g_21 i = .inr (0, [.ref (A (i + 1)), .ref (A (i + 2)), .int (iI ((bz : Int))), .int (iI (((tot + wt : Nat) : Int)))]) := by rw [hg_21]; exact va_up_self _ _ _
      refine x_iconst X dX0_addPair_24 ?_
      refine x_seti (((0 : Nat) : Int)) rfl ?_
      refine lv_istore_n (lv' := [(3, .int (iI (((0 : Nat) : Int)))), (0, .ref (A (i))), (1, .int (iI ((w : Int)))), (2, .int (iI ((wt : Int))))]) X.1 X.2.1 dX0_addPair_25 rfl hl (by decide) rfl (fun ls hl => ?_)
      have loop_26 : ∀ (fuel : Nat) (q : Nat) (g1 : Nat → va_E) (H : Heap) (locs : List Loc) (ls : Array Slot), (bz - q) < fuel → (q ≤ bz) → (∀ j, j < q → wo j < w) → (g1 = g_21) → wH E (wF A n sz) A n s g1 H locs → lv_has ls 5 [(0, .ref (A (i))), (1, .int (iI ((w : Int)))), (2, .int (iI ((wt : Int)))), (3, .int (iI ((q : Int))))] → W p l e ({ frames := 1, cells := 0, slots := 0, locals := 30 } : Room) s m [.ref (A (i)), .int (iI ((w : Int))), .int (iI ((wt : Int)))].toArray below meth c H locs 0 0 (MQ below (va_Qv (fun g' => (∃ (bz' : Nat) (wo' we' : Nat → Nat), BookC E A g' i bz' wo' we' (tot + wt) ∧ BookP bz' wo' we' (tot + wt) (L ++ [(w, wt)]) ∧ bz' ≤ bz + 1) ∧ ∀ j, (j < i ∨ i + 2 < j) → g' j = g j) (wAt E A n) (wF A n sz)) [.ref (A (i)), .int (iI ((w : Int))), .int (iI ((wt : Int)))].toArray s 0 0 (wF A n sz)) (F0 m 26 ls []) := by
        intro fuel
        induction fuel with
        | zero => intro q g1 H locs ls hm; exact absurd hm (Nat.not_lt_zero _)
        | succ fuel ih_26 =>
          intro q g1 H locs ls hm hq hs hgg hW hl
          have h0 : g1 i = .inr (0, [.ref (A (i + 1)), .ref (A (i + 2)), .int (iI ((bz : Int))), .int (iI (((tot + wt : Nat) : Int)))]) := by rw [hgg]; exact h0
          have h1 : g1 (i + 1) = aI E 8 f := by rw [hgg]; exact h1
          have h2 : g1 (i + 2) = aI E 8 h := by rw [hgg]; exact h2
          refine lv_iload_n X.1 X.2.1 dX0_addPair_26 rfl (lv_at hl 3 rfl) ?_
          refine lv_aload_n X.1 X.2.1 dX0_addPair_27 rfl (lv_at hl 0 rfl) ?_
          refine x_get (C := RX0) (T := TX0) (N := 4) X hW (by omega) h0 rfl lk_0 2 (by decide) lk_1 rfl dX0_addPair_28 ?_
          refine x_icmp_ge (tgt := 50) X ⟨by omega, by omega⟩ ⟨by omega, by omega⟩ dX0_addPair_31 (by decide) (fun b_31 => ?_) (fun b_31 => ?_)
          · have hqe : q = bz := by omega
            refine lv_iload_n X.1 X.2.1 dX0_addPair_50 rfl (lv_at hl 3 rfl) ?_
            refine lv_aload_n X.1 X.2.1 dX0_addPair_51 rfl (lv_at hl 0 rfl) ?_
            refine x_get (C := RX0) (T := TX0) (N := 4) X hW (by omega) h0 rfl lk_0 2 (by decide) lk_1 rfl dX0_addPair_52 ?_
            refine x_icmp_ge (tgt := 79) X ⟨by omega, by omega⟩ ⟨by omega, by omega⟩ dX0_addPair_55 (by decide) (fun b_55 => ?_) (fun b_55 => ?_)
            · refine lv_aload_n X.1 X.2.1 dX0_addPair_79 rfl (lv_at hl 0 rfl) ?_
              refine x_get (C := RX0) (T := TX0) (N := 4) X hW (by omega) h0 rfl lk_0 2 (by decide) lk_1 rfl dX0_addPair_80 ?_
              refine lv_istore (lv' := [(4, .int (iI ((bz : Int)))), (0, .ref (A (i))), (1, .int (iI ((w : Int)))), (2, .int (iI ((wt : Int)))), (3, .int (iI ((q : Int))))]) X.1 X.2.1 dX0_addPair_83 hl (by decide) rfl (fun ls hl => ?_)
              have loop_85 : ∀ (fuel : Nat) (k : Nat) (f2 : Nat → Int32) (t2 : Nat → Int32) (g2 : Nat → va_E) (H : Heap) (locs : List Loc) (ls : Array Slot), (k) < fuel → (q ≤ k) → (k ≤ bz) → (g2 i = .inr (0, [.ref (A (i + 1)), .ref (A (i + 2)), .int (iI ((bz : Int))), .int (iI (((tot + wt : Nat) : Int)))])) → (g2 (i + 1) = aI E 8 f2) → (g2 (i + 2) = aI E 8 t2) → (∀ j, f2 j = if k < j ∧ j ≤ bz then f (j - 1) else f j) → (∀ j, t2 j = if k < j ∧ j ≤ bz then h (j - 1) else h j) → (∀ j, (j < i ∨ i + 2 < j) → g2 j = g j) → wH E (wF A n sz) A n s g2 H locs → lv_has ls 5 [(0, .ref (A (i))), (1, .int (iI ((w : Int)))), (2, .int (iI ((wt : Int)))), (3, .int (iI ((q : Int)))), (4, .int (iI ((k : Int))))] → W p l e ({ frames := 1, cells := 0, slots := 0, locals := 30 } : Room) s m [.ref (A (i)), .int (iI ((w : Int))), .int (iI ((wt : Int)))].toArray below meth c H locs 0 0 (MQ below (va_Qv (fun g' => (∃ (bz' : Nat) (wo' we' : Nat → Nat), BookC E A g' i bz' wo' we' (tot + wt) ∧ BookP bz' wo' we' (tot + wt) (L ++ [(w, wt)]) ∧ bz' ≤ bz + 1) ∧ ∀ j, (j < i ∨ i + 2 < j) → g' j = g j) (wAt E A n) (wF A n sz)) [.ref (A (i)), .int (iI ((w : Int))), .int (iI ((wt : Int)))].toArray s 0 0 (wF A n sz)) (F0 m 85 ls []) := by
                intro fuel
                induction fuel with
                | zero => intro k f2 t2 g2 H locs ls hm; exact absurd hm (Nat.not_lt_zero _)
                | succ fuel ih_85 =>
                  intro k f2 t2 g2 H locs ls hm hk1 hk2 h0 h1 h2 hf2 ht2 hfr hW hl
                  refine lv_iload X.1 X.2.1 dX0_addPair_85 (lv_at hl 4 rfl) ?_
                  refine lv_iload_n X.1 X.2.1 dX0_addPair_87 rfl (lv_at hl 3 rfl) ?_
                  refine x_icmp_le (tgt := 129) X ⟨by omega, by omega⟩ ⟨by omega, by omega⟩ dX0_addPair_88 (by decide) (fun b_88 => ?_) (fun b_88 => ?_)
                  · refine lv_aload_n X.1 X.2.1 dX0_addPair_129 rfl (lv_at hl 0 rfl) ?_
                    refine x_get (C := RX0) (T := TX0) (N := 4) X hW (by omega) h0 rfl lk_0 0 (by decide) lk_3 rfl dX0_addPair_130 ?_
                    refine lv_iload_n X.1 X.2.1 dX0_addPair_133 rfl (lv_at hl 3 rfl) ?_
                    refine lv_iload_n X.1 X.2.1 dX0_addPair_134 rfl (lv_at hl 1 rfl) ?_
                    refine x_iast X hW (by omega) h1 q (by omega) (by omega) (by decide) dX0_addPair_135 (fun g_135 H locs hg_135 hW => ?_)
                    have h0 : g_135 i = .inr (0, [.ref (A (i + 1)), .ref (A (i + 2)), .int (iI ((bz : Int))), .int (iI (((tot + wt : Nat) : Int)))]) := by rw [hg_135, va_up_ne _ _ (by omega)]; exact h0
                    have h2 : g_135 (i + 2) = aI E 8 t2 := by rw [hg_135, va_up_ne _ _ (by omega)]; exact h2
                    have h1 : g_135 (i + 1) = aI E 8 (upd f2 q (iI ((w : Int)))) := by rw [hg_135]; exact va_up_self _ _ _
                    refine lv_aload_n X.1 X.2.1 dX0_addPair_136 rfl (lv_at hl 0 rfl) ?_
                    refine x_get (C := RX0) (T := TX0) (N := 4) X hW (by omega) h0 rfl lk_0 1 (by decide) lk_4 rfl dX0_addPair_137 ?_
                    refine lv_iload_n X.1 X.2.1 dX0_addPair_140 rfl (lv_at hl 3 rfl) ?_
                    refine lv_iload_n X.1 X.2.1 dX0_addPair_141 rfl (lv_at hl 2 rfl) ?_
                    refine x_iast X hW (by omega) h2 q (by omega) (by omega) (by decide) dX0_addPair_142 (fun g_142 H locs hg_142 hW => ?_)
                    have h0 : g_142 i = .inr (0, [.ref (A (i + 1)), .ref (A (i + 2)), .int (iI ((bz : Int))), .int (iI (((tot + wt : Nat) : Int)))]) := by rw [hg_142, va_up_ne _ _ (by omega)]; exact h0
                    have h1 : g_142 (i + 1) = aI E 8 (upd f2 q (iI ((w : Int)))) := by rw [hg_142, va_up_ne _ _ (by omega)]; exact h1
                    have h2 : g_142 (i + 2) = aI E 8 (upd t2 q (iI ((wt : Int)))) := by rw [hg_142]; exact va_up_self _ _ _
                    refine lv_aload_n X.1 X.2.1 dX0_addPair_143 rfl (lv_at hl 0 rfl) ?_
                    refine lv_dup X.1 X.2.1 dX0_addPair_144 rfl ?_
                    refine x_get (C := RX0) (T := TX0) (N := 4) X hW (by omega) h0 rfl lk_0 2 (by decide) lk_1 rfl dX0_addPair_145 ?_
                    refine x_iconst X dX0_addPair_148 ?_
                    refine x_iadd X dX0_addPair_149 ?_
                    refine x_seti (((bz + 1 : Nat) : Int)) (by omega) ?_
                    refine x_put (C := RX0) (T := TX0) (N := 4) X hW (by omega) h0 rfl lk_0 tyX0 tyX0_ok nmX0 2 (by decide) lk_1 rfl rfl rfl (Nat.le_of_ble_eq_true rfl) dX0_addPair_150 (fun g_150 H locs hg_150 hW => ?_)
                    have h1 : g_150 (i + 1) = aI E 8 (upd f2 q (iI ((w : Int)))) := by rw [hg_150, va_up_ne _ _ (by omega)]; exact h1
                    have h2 : g_150 (i + 2) = aI E 8 (upd t2 q (iI ((wt : Int)))) := by rw [hg_150, va_up_ne _ _ (by omega)]; exact h2
                    have h0 : g_150 i = .inr (0, [.ref (A (i + 1)), .ref (A (i + 2)), .int (iI (((bz + 1 : Nat) : Int))), .int (iI (((tot + wt : Nat) : Int)))]) := by rw [hg_150]; exact va_up_self _ _ _
                    exact x_vret X hr hlk hW (⟨⟨bz + 1, ins wo q w, ins we q wt, ⟨h0, by omega, _, _, h1, h2, fun k9 hk9 => ⟨sh_fin hf2 (by omega) hq (fun j hj => (hf j hj).1) hk9, sh_fin ht2 (by omega) hq (fun j hj => (hf j hj).2) hk9⟩⟩, hp.ins hq hs (fun h => by omega) hw (by omega) htt, by omega⟩, fun j hj => by rw [hg_150, va_up_ne _ _ (by omega), hg_142, va_up_ne _ _ (by omega), hg_135, va_up_ne _ _ (by omega)]; exact hfr j hj⟩) dX0_addPair_153
                  · obtain ⟨t, ht⟩ : ∃ t, k = t + 1 := ⟨k - 1, by omega⟩
                    have hct := hf t (by omega)
                    refine lv_aload_n X.1 X.2.1 dX0_addPair_91 rfl (lv_at hl 0 rfl) ?_
                    refine x_get (C := RX0) (T := TX0) (N := 4) X hW (by omega) h0 rfl lk_0 0 (by decide) lk_3 rfl dX0_addPair_92 ?_
                    refine lv_iload X.1 X.2.1 dX0_addPair_95 (lv_at hl 4 rfl) ?_
                    refine lv_aload_n X.1 X.2.1 dX0_addPair_97 rfl (lv_at hl 0 rfl) ?_
                    refine x_get (C := RX0) (T := TX0) (N := 4) X hW (by omega) h0 rfl lk_0 0 (by decide) lk_3 rfl dX0_addPair_98 ?_
                    refine lv_iload X.1 X.2.1 dX0_addPair_101 (lv_at hl 4 rfl) ?_
                    refine x_iconst X dX0_addPair_103 ?_
                    refine x_isub X dX0_addPair_104 ?_
                    refine x_iald X hW (by omega) h1 (v := iI (((wo t : Nat) : Int))) t (by omega) (by omega) (by decide) (by rw [hf2, if_neg (by omega)]; exact hct.1) dX0_addPair_105 ?_
                    refine x_iast X hW (by omega) h1 k (by omega) (by omega) (by decide) dX0_addPair_106 (fun g_106 H locs hg_106 hW => ?_)
                    have h0 : g_106 i = .inr (0, [.ref (A (i + 1)), .ref (A (i + 2)), .int (iI ((bz : Int))), .int (iI (((tot + wt : Nat) : Int)))]) := by rw [hg_106, va_up_ne _ _ (by omega)]; exact h0
                    have h2 : g_106 (i + 2) = aI E 8 t2 := by rw [hg_106, va_up_ne _ _ (by omega)]; exact h2
                    have h1 : g_106 (i + 1) = aI E 8 (upd f2 k (iI (((wo t : Nat) : Int)))) := by rw [hg_106]; exact va_up_self _ _ _
                    refine lv_aload_n X.1 X.2.1 dX0_addPair_107 rfl (lv_at hl 0 rfl) ?_
                    refine x_get (C := RX0) (T := TX0) (N := 4) X hW (by omega) h0 rfl lk_0 1 (by decide) lk_4 rfl dX0_addPair_108 ?_
                    refine lv_iload X.1 X.2.1 dX0_addPair_111 (lv_at hl 4 rfl) ?_
                    refine lv_aload_n X.1 X.2.1 dX0_addPair_113 rfl (lv_at hl 0 rfl) ?_
                    refine x_get (C := RX0) (T := TX0) (N := 4) X hW (by omega) h0 rfl lk_0 1 (by decide) lk_4 rfl dX0_addPair_114 ?_
                    refine lv_iload X.1 X.2.1 dX0_addPair_117 (lv_at hl 4 rfl) ?_
                    refine x_iconst X dX0_addPair_119 ?_
                    refine x_isub X dX0_addPair_120 ?_
                    refine x_iald X hW (by omega) h2 (v := iI (((we t : Nat) : Int))) t (by omega) (by omega) (by decide) (by rw [ht2, if_neg (by omega)]; exact hct.2) dX0_addPair_121 ?_
                    refine x_iast X hW (by omega) h2 k (by omega) (by omega) (by decide) dX0_addPair_122 (fun g_122 H locs hg_122 hW => ?_)
                    have h0 : g_122 i = .inr (0, [.ref (A (i + 1)), .ref (A (i + 2)), .int (iI ((bz : Int))), .int (iI (((tot + wt : Nat) : Int)))]) := by rw [hg_122, va_up_ne _ _ (by omega)]; exact h0
                    have h1 : g_122 (i + 1) = aI E 8 (upd f2 k (iI (((wo t : Nat) : Int)))) := by rw [hg_122, va_up_ne _ _ (by omega)]; exact h1
                    have h2 : g_122 (i + 2) = aI E 8 (upd t2 k (iI (((we t : Nat) : Int)))) := by rw [hg_122]; exact va_up_self _ _ _
                    refine lv_iinc (v := iI ((t : Int))) (lv' := [(4, .int (iI ((t : Int)))), (0, .ref (A (i))), (1, .int (iI ((w : Int)))), (2, .int (iI ((wt : Int)))), (3, .int (iI ((q : Int))))]) X.1 X.2.1 dX0_addPair_123 hl (k := 4) rfl (by rw [show (Int32.ofInt (-1)) = iI (-1) from rfl, iI_add]; congr 1; omega) (by decide) rfl (fun ls hl => ?_)
                    refine lv_goto (tgt := 85) X.1 X.2.1 dX0_addPair_126 (by decide) ?_
                    exact ih_85 t _ _ g_122 _ _ _ (by omega) (by omega) (by omega) h0 h1 h2 (sh_up hf2 ht (by omega) hct.1.symm) (sh_up ht2 ht (by omega) hct.2.symm) (fun j hj => by rw [hg_122, va_up_ne _ _ (by omega), hg_106, va_up_ne _ _ (by omega)]; exact hfr j hj) hW (lv_sub hl [1, 2, 3, 4, 0] rfl)
              exact loop_85 _ bz f h g1 _ _ _ (Nat.lt_succ_self _) hq (Nat.le_refl _) h0 h1 h2 (fun j => by rw [if_neg (by omega)]) (fun j => by rw [if_neg (by omega)]) (fun j hj => by rw [hgg, hg_21, va_up_ne _ _ (by omega)]) hW (lv_sub hl [1, 2, 3, 4, 0] rfl)
            · exact absurd b_55 (by omega)
          · have hk9 : q < bz := by omega
            have ha := hp.2.1 q hk9
            have hb := we_le hp hk9
            have hc := hf q hk9
            refine lv_aload_n X.1 X.2.1 dX0_addPair_34 rfl (lv_at hl 0 rfl) ?_
            refine x_get (C := RX0) (T := TX0) (N := 4) X hW (by omega) h0 rfl lk_0 0 (by decide) lk_3 rfl dX0_addPair_35 ?_
            refine lv_iload_n X.1 X.2.1 dX0_addPair_38 rfl (lv_at hl 3 rfl) ?_
            refine x_iald X hW (by omega) h1 (v := iI (((wo q : Nat) : Int))) q (by omega) (by omega) (by decide) hc.1 dX0_addPair_39 ?_
            refine lv_iload_n X.1 X.2.1 dX0_addPair_40 rfl (lv_at hl 1 rfl) ?_
            refine x_icmp_ge (tgt := 50) X ⟨by omega, by omega⟩ ⟨by omega, by omega⟩ dX0_addPair_41 (by decide) (fun b_41 => ?_) (fun b_41 => ?_)
            · have hge : w ≤ wo q := by omega
              refine lv_iload_n X.1 X.2.1 dX0_addPair_50 rfl (lv_at hl 3 rfl) ?_
              refine lv_aload_n X.1 X.2.1 dX0_addPair_51 rfl (lv_at hl 0 rfl) ?_
              refine x_get (C := RX0) (T := TX0) (N := 4) X hW (by omega) h0 rfl lk_0 2 (by decide) lk_1 rfl dX0_addPair_52 ?_
              refine x_icmp_ge (tgt := 79) X ⟨by omega, by omega⟩ ⟨by omega, by omega⟩ dX0_addPair_55 (by decide) (fun b_55 => ?_) (fun b_55 => ?_)
              · exact absurd b_55 (by omega)
              · refine lv_aload_n X.1 X.2.1 dX0_addPair_58 rfl (lv_at hl 0 rfl) ?_
                refine x_get (C := RX0) (T := TX0) (N := 4) X hW (by omega) h0 rfl lk_0 0 (by decide) lk_3 rfl dX0_addPair_59 ?_
                refine lv_iload_n X.1 X.2.1 dX0_addPair_62 rfl (lv_at hl 3 rfl) ?_
                refine x_iald X hW (by omega) h1 (v := iI (((wo q : Nat) : Int))) q (by omega) (by omega) (by decide) hc.1 dX0_addPair_63 ?_
                refine lv_iload_n X.1 X.2.1 dX0_addPair_64 rfl (lv_at hl 1 rfl) ?_
                refine x_icmp_ne (tgt := 79) X ⟨by omega, by omega⟩ ⟨by omega, by omega⟩ dX0_addPair_65 (by decide) (fun b_65 => ?_) (fun b_65 => ?_)
                · have hne : wo q ≠ w := by omega
                  refine lv_aload_n X.1 X.2.1 dX0_addPair_79 rfl (lv_at hl 0 rfl) ?_
                  refine x_get (C := RX0) (T := TX0) (N := 4) X hW (by omega) h0 rfl lk_0 2 (by decide) lk_1 rfl dX0_addPair_80 ?_
                  refine lv_istore (lv' := [(4, .int (iI ((bz : Int)))), (0, .ref (A (i))), (1, .int (iI ((w : Int)))), (2, .int (iI ((wt : Int)))), (3, .int (iI ((q : Int))))]) X.1 X.2.1 dX0_addPair_83 hl (by decide) rfl (fun ls hl => ?_)
                  have loop_85 : ∀ (fuel : Nat) (k : Nat) (f2 : Nat → Int32) (t2 : Nat → Int32) (g2 : Nat → va_E) (H : Heap) (locs : List Loc) (ls : Array Slot), (k) < fuel → (q ≤ k) → (k ≤ bz) → (g2 i = .inr (0, [.ref (A (i + 1)), .ref (A (i + 2)), .int (iI ((bz : Int))), .int (iI (((tot + wt : Nat) : Int)))])) → (g2 (i + 1) = aI E 8 f2) → (g2 (i + 2) = aI E 8 t2) → (∀ j, f2 j = if k < j ∧ j ≤ bz then f (j - 1) else f j) → (∀ j, t2 j = if k < j ∧ j ≤ bz then h (j - 1) else h j) → (∀ j, (j < i ∨ i + 2 < j) → g2 j = g j) → wH E (wF A n sz) A n s g2 H locs → lv_has ls 5 [(0, .ref (A (i))), (1, .int (iI ((w : Int)))), (2, .int (iI ((wt : Int)))), (3, .int (iI ((q : Int)))), (4, .int (iI ((k : Int))))] → W p l e ({ frames := 1, cells := 0, slots := 0, locals := 30 } : Room) s m [.ref (A (i)), .int (iI ((w : Int))), .int (iI ((wt : Int)))].toArray below meth c H locs 0 0 (MQ below (va_Qv (fun g' => (∃ (bz' : Nat) (wo' we' : Nat → Nat), BookC E A g' i bz' wo' we' (tot + wt) ∧ BookP bz' wo' we' (tot + wt) (L ++ [(w, wt)]) ∧ bz' ≤ bz + 1) ∧ ∀ j, (j < i ∨ i + 2 < j) → g' j = g j) (wAt E A n) (wF A n sz)) [.ref (A (i)), .int (iI ((w : Int))), .int (iI ((wt : Int)))].toArray s 0 0 (wF A n sz)) (F0 m 85 ls []) := by
                    intro fuel
                    induction fuel with
                    | zero => intro k f2 t2 g2 H locs ls hm; exact absurd hm (Nat.not_lt_zero _)
                    | succ fuel ih_85 =>
                      intro k f2 t2 g2 H locs ls hm hk1 hk2 h0 h1 h2 hf2 ht2 hfr hW hl
                      refine lv_iload X.1 X.2.1 dX0_addPair_85 (lv_at hl 4 rfl) ?_
                      refine lv_iload_n X.1 X.2.1 dX0_addPair_87 rfl (lv_at hl 3 rfl) ?_
                      refine x_icmp_le (tgt := 129) X ⟨by omega, by omega⟩ ⟨by omega, by omega⟩ dX0_addPair_88 (by decide) (fun b_88 => ?_) (fun b_88 => ?_)
                      · refine lv_aload_n X.1 X.2.1 dX0_addPair_129 rfl (lv_at hl 0 rfl) ?_
                        refine x_get (C := RX0) (T := TX0) (N := 4) X hW (by omega) h0 rfl lk_0 0 (by decide) lk_3 rfl dX0_addPair_130 ?_
                        refine lv_iload_n X.1 X.2.1 dX0_addPair_133 rfl (lv_at hl 3 rfl) ?_
                        refine lv_iload_n X.1 X.2.1 dX0_addPair_134 rfl (lv_at hl 1 rfl) ?_
                        refine x_iast X hW (by omega) h1 q (by omega) (by omega) (by decide) dX0_addPair_135 (fun g_135 H locs hg_135 hW => ?_)
                        have h0 : g_135 i = .inr (0, [.ref (A (i + 1)), .ref (A (i + 2)), .int (iI ((bz : Int))), .int (iI (((tot + wt : Nat) : Int)))]) := by rw [hg_135, va_up_ne _ _ (by omega)]; exact h0
                        have h2 : g_135 (i + 2) = aI E 8 t2 := by rw [hg_135, va_up_ne _ _ (by omega)]; exact h2
                        have h1 : g_135 (i + 1) = aI E 8 (upd f2 q (iI ((w : Int)))) := by rw [hg_135]; exact va_up_self _ _ _
                        refine lv_aload_n X.1 X.2.1 dX0_addPair_136 rfl (lv_at hl 0 rfl) ?_
                        refine x_get (C := RX0) (T := TX0) (N := 4) X hW (by omega) h0 rfl lk_0 1 (by decide) lk_4 rfl dX0_addPair_137 ?_
                        refine lv_iload_n X.1 X.2.1 dX0_addPair_140 rfl (lv_at hl 3 rfl) ?_
                        refine lv_iload_n X.1 X.2.1 dX0_addPair_141 rfl (lv_at hl 2 rfl) ?_
                        refine x_iast X hW (by omega) h2 q (by omega) (by omega) (by decide) dX0_addPair_142 (fun g_142 H locs hg_142 hW => ?_)
                        have h0 : g_142 i = .inr (0, [.ref (A (i + 1)), .ref (A (i + 2)), .int (iI ((bz : Int))), .int (iI (((tot + wt : Nat) : Int)))]) := by rw [hg_142, va_up_ne _ _ (by omega)]; exact h0
                        have h1 : g_142 (i + 1) = aI E 8 (upd f2 q (iI ((w : Int)))) := by rw [hg_142, va_up_ne _ _ (by omega)]; exact h1
                        have h2 : g_142 (i + 2) = aI E 8 (upd t2 q (iI ((wt : Int)))) := by rw [hg_142]; exact va_up_self _ _ _
                        refine lv_aload_n X.1 X.2.1 dX0_addPair_143 rfl (lv_at hl 0 rfl) ?_
                        refine lv_dup X.1 X.2.1 dX0_addPair_144 rfl ?_
                        refine x_get (C := RX0) (T := TX0) (N := 4) X hW (by omega) h0 rfl lk_0 2 (by decide) lk_1 rfl dX0_addPair_145 ?_
                        refine x_iconst X dX0_addPair_148 ?_
                        refine x_iadd X dX0_addPair_149 ?_
                        refine x_seti (((bz + 1 : Nat) : Int)) (by omega) ?_
                        refine x_put (C := RX0) (T := TX0) (N := 4) X hW (by omega) h0 rfl lk_0 tyX0 tyX0_ok nmX0 2 (by decide) lk_1 rfl rfl rfl (Nat.le_of_ble_eq_true rfl) dX0_addPair_150 (fun g_150 H locs hg_150 hW => ?_)
                        have h1 : g_150 (i + 1) = aI E 8 (upd f2 q (iI ((w : Int)))) := by rw [hg_150, va_up_ne _ _ (by omega)]; exact h1
                        have h2 : g_150 (i + 2) = aI E 8 (upd t2 q (iI ((wt : Int)))) := by rw [hg_150, va_up_ne _ _ (by omega)]; exact h2
                        have h0 : g_150 i = .inr (0, [.ref (A (i + 1)), .ref (A (i + 2)), .int (iI (((bz + 1 : Nat) : Int))), .int (iI (((tot + wt : Nat) : Int)))]) := by rw [hg_150]; exact va_up_self _ _ _
                        exact x_vret X hr hlk hW (⟨⟨bz + 1, ins wo q w, ins we q wt, ⟨h0, by omega, _, _, h1, h2, fun k9 hk9 => ⟨sh_fin hf2 (by omega) hq (fun j hj => (hf j hj).1) hk9, sh_fin ht2 (by omega) hq (fun j hj => (hf j hj).2) hk9⟩⟩, hp.ins hq hs (fun h => by omega) hw (by omega) htt, by omega⟩, fun j hj => by rw [hg_150, va_up_ne _ _ (by omega), hg_142, va_up_ne _ _ (by omega), hg_135, va_up_ne _ _ (by omega)]; exact hfr j hj⟩) dX0_addPair_153
                      · obtain ⟨t, ht⟩ : ∃ t, k = t + 1 := ⟨k - 1, by omega⟩
                        have hct := hf t (by omega)
                        refine lv_aload_n X.1 X.2.1 dX0_addPair_91 rfl (lv_at hl 0 rfl) ?_
                        refine x_get (C := RX0) (T := TX0) (N := 4) X hW (by omega) h0 rfl lk_0 0 (by decide) lk_3 rfl dX0_addPair_92 ?_
                        refine lv_iload X.1 X.2.1 dX0_addPair_95 (lv_at hl 4 rfl) ?_
                        refine lv_aload_n X.1 X.2.1 dX0_addPair_97 rfl (lv_at hl 0 rfl) ?_
                        refine x_get (C := RX0) (T := TX0) (N := 4) X hW (by omega) h0 rfl lk_0 0 (by decide) lk_3 rfl dX0_addPair_98 ?_
                        refine lv_iload X.1 X.2.1 dX0_addPair_101 (lv_at hl 4 rfl) ?_
                        refine x_iconst X dX0_addPair_103 ?_
                        refine x_isub X dX0_addPair_104 ?_
                        refine x_iald X hW (by omega) h1 (v := iI (((wo t : Nat) : Int))) t (by omega) (by omega) (by decide) (by rw [hf2, if_neg (by omega)]; exact hct.1) dX0_addPair_105 ?_
                        refine x_iast X hW (by omega) h1 k (by omega) (by omega) (by decide) dX0_addPair_106 (fun g_106 H locs hg_106 hW => ?_)
                        have h0 : g_106 i = .inr (0, [.ref (A (i + 1)), .ref (A (i + 2)), .int (iI ((bz : Int))), .int (iI (((tot + wt : Nat) : Int)))]) := by rw [hg_106, va_up_ne _ _ (by omega)]; exact h0
                        have h2 : g_106 (i + 2) = aI E 8 t2 := by rw [hg_106, va_up_ne _ _ (by omega)]; exact h2
                        have h1 : g_106 (i + 1) = aI E 8 (upd f2 k (iI (((wo t : Nat) : Int)))) := by rw [hg_106]; exact va_up_self _ _ _
                        refine lv_aload_n X.1 X.2.1 dX0_addPair_107 rfl (lv_at hl 0 rfl) ?_
                        refine x_get (C := RX0) (T := TX0) (N := 4) X hW (by omega) h0 rfl lk_0 1 (by decide) lk_4 rfl dX0_addPair_108 ?_
                        refine lv_iload X.1 X.2.1 dX0_addPair_111 (lv_at hl 4 rfl) ?_
                        refine lv_aload_n X.1 X.2.1 dX0_addPair_113 rfl (lv_at hl 0 rfl) ?_
                        refine x_get (C := RX0) (T := TX0) (N := 4) X hW (by omega) h0 rfl lk_0 1 (by decide) lk_4 rfl dX0_addPair_114 ?_
                        refine lv_iload X.1 X.2.1 dX0_addPair_117 (lv_at hl 4 rfl) ?_
                        refine x_iconst X dX0_addPair_119 ?_
                        refine x_isub X dX0_addPair_120 ?_
                        refine x_iald X hW (by omega) h2 (v := iI (((we t : Nat) : Int))) t (by omega) (by omega) (by decide) (by rw [ht2, if_neg (by omega)]; exact hct.2) dX0_addPair_121 ?_
                        refine x_iast X hW (by omega) h2 k (by omega) (by omega) (by decide) dX0_addPair_122 (fun g_122 H locs hg_122 hW => ?_)
                        have h0 : g_122 i = .inr (0, [.ref (A (i + 1)), .ref (A (i + 2)), .int (iI ((bz : Int))), .int (iI (((tot + wt : Nat) : Int)))]) := by rw [hg_122, va_up_ne _ _ (by omega)]; exact h0
                        have h1 : g_122 (i + 1) = aI E 8 (upd f2 k (iI (((wo t : Nat) : Int)))) := by rw [hg_122, va_up_ne _ _ (by omega)]; exact h1
                        have h2 : g_122 (i + 2) = aI E 8 (upd t2 k (iI (((we t : Nat) : Int)))) := by rw [hg_122]; exact va_up_self _ _ _
                        refine lv_iinc (v := iI ((t : Int))) (lv' := [(4, .int (iI ((t : Int)))), (0, .ref (A (i))), (1, .int (iI ((w : Int)))), (2, .int (iI ((wt : Int)))), (3, .int (iI ((q : Int))))]) X.1 X.2.1 dX0_addPair_123 hl (k := 4) rfl (by rw [show (Int32.ofInt (-1)) = iI (-1) from rfl, iI_add]; congr 1; omega) (by decide) rfl (fun ls hl => ?_)
                        refine lv_goto (tgt := 85) X.1 X.2.1 dX0_addPair_126 (by decide) ?_
                        exact ih_85 t _ _ g_122 _ _ _ (by omega) (by omega) (by omega) h0 h1 h2 (sh_up hf2 ht (by omega) hct.1.symm) (sh_up ht2 ht (by omega) hct.2.symm) (fun j hj => by rw [hg_122, va_up_ne _ _ (by omega), hg_106, va_up_ne _ _ (by omega)]; exact hfr j hj) hW (lv_sub hl [1, 2, 3, 4, 0] rfl)
                  exact loop_85 _ bz f h g1 _ _ _ (Nat.lt_succ_self _) hq (Nat.le_refl _) h0 h1 h2 (fun j => by rw [if_neg (by omega)]) (fun j => by rw [if_neg (by omega)]) (fun j hj => by rw [hgg, hg_21, va_up_ne _ _ (by omega)]) hW (lv_sub hl [1, 2, 3, 4, 0] rfl)
                · have heq : wo q = w := by omega
                  refine lv_aload_n X.1 X.2.1 dX0_addPair_68 rfl (lv_at hl 0 rfl) ?_
                  refine x_get (C := RX0) (T := TX0) (N := 4) X hW (by omega) h0 rfl lk_0 1 (by decide) lk_4 rfl dX0_addPair_69 ?_
                  refine lv_iload_n X.1 X.2.1 dX0_addPair_72 rfl (lv_at hl 3 rfl) ?_
                  refine lv_dup2_11 X.1 X.2.1 dX0_addPair_73 rfl rfl ?_
                  refine x_iald X hW (by omega) h2 (v := iI (((we q : Nat) : Int))) q (by omega) (by omega) (by decide) hc.2 dX0_addPair_74 ?_
                  refine lv_iload_n X.1 X.2.1 dX0_addPair_75 rfl (lv_at hl 2 rfl) ?_
                  refine x_iadd X dX0_addPair_76 ?_
                  refine x_seti (((we q + wt : Nat) : Int)) (by omega) ?_
                  refine x_iast X hW (by omega) h2 q (by omega) (by omega) (by decide) dX0_addPair_77 (fun g_77 H locs hg_77 hW => ?_)
                  have h0 : g_77 i = .inr (0, [.ref (A (i + 1)), .ref (A (i + 2)), .int (iI ((bz : Int))), .int (iI (((tot + wt : Nat) : Int)))]) := by rw [hg_77, va_up_ne _ _ (by omega)]; exact h0
                  have h1 : g_77 (i + 1) = aI E 8 f := by rw [hg_77, va_up_ne _ _ (by omega)]; exact h1
                  have h2 : g_77 (i + 2) = aI E 8 (upd h q (iI (((we q + wt : Nat) : Int)))) := by rw [hg_77]; exact va_up_self _ _ _
                  exact x_vret X hr hlk hW (⟨⟨bz, wo, _, ⟨h0, hs8, f, _, h1, h2, fun k hk => ⟨(hf k hk).1, by
          by_cases e : k = q
          · rw [e, pk_us, if_pos rfl]
          · rw [pk_un e, if_neg e]; exact (hf k hk).2⟩⟩, hp.more hk9 heq htt, by omega⟩, fun j hj => by rw [hg_77, va_up_ne _ _ (by omega), hgg, hg_21, va_up_ne _ _ (by omega)]⟩) dX0_addPair_78
            · refine lv_iinc (v := iI (((q + 1 : Nat) : Int))) (lv' := [(3, .int (iI (((q + 1 : Nat) : Int)))), (0, .ref (A (i))), (1, .int (iI ((w : Int)))), (2, .int (iI ((wt : Int))))]) X.1 X.2.1 dX0_addPair_44 hl (k := 3) rfl (by rw [show (Int32.ofInt (1)) = iI (1) from rfl, iI_add]; rfl) (by decide) rfl (fun ls hl => ?_)
              refine lv_goto (tgt := 26) X.1 X.2.1 dX0_addPair_47 (by decide) ?_
              exact ih_26 (q + 1) g1 _ _ _ (by omega) (by omega) (fun j hj => if e : j = q then (by rw [e]; omega) else hs j (by omega)) hgg hW (lv_sub hl [1, 2, 3, 0] rfl)
      exact loop_26 _ 0 g_21 _ _ _ (Nat.lt_succ_self _) (Nat.zero_le _) (fun j hj => absurd hj (Nat.not_lt_zero _)) rfl hW (lv_sub hl [1, 2, 3, 0] rfl)
    · exact absurd b_10 (by omega)

