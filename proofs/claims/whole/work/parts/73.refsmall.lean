/-! ===== the reference's books, comers, pays, happenings, boxes ===== -/
def BooksM (E : wE) (A : Nat → Nat) (g : Nat → va_E) (i bk : Nat) (L : Nat → List (Nat × Nat)) : Prop := ∃ (f5 f6 f7 f8 : Nat → Int32), g (i + 5) = aI E 16 f5 ∧ g (i + 6) = aI E 128 f6 ∧ g (i + 7) = aI E 128 f7 ∧ g (i + 8) = aI E 16 f8 ∧ bk ≤ 16 ∧ ∀ b, b < bk → (L b).length ≤ 8 ∧ f5 b = iI (((L b).length : Nat) : Int) ∧ f8 b = iI ((bE (L b) (fun _ => 1) : Nat) : Int) ∧ 0 < bE (L b) (fun _ => 1) ∧ ∀ k, k < (L b).length → f6 (8 * b + k) = iI ((((L b).getD k (0, 0)).1 : Nat) : Int) ∧ f7 (8 * b + k) = iI ((((L b).getD k (0, 0)).2 : Nat) : Int) ∧ ((L b).getD k (0, 0)).1 ≤ 1000 ∧ ((L b).getD k (0, 0)).2 ≤ 1000
def ComM (E : wE) (A : Nat → Nat) (g : Nat → va_E) (i bk cz : Nat) (co br : Nat → Nat) : Prop := ∃ (f9 f10 : Nat → Int32), g (i + 9) = aI E 10 f9 ∧ g (i + 10) = aI E 10 f10 ∧ cz ≤ 10 ∧ ∀ k, k < cz → co k < bk ∧ br k ≤ 1001 ∧ f9 k = iI ((co k : Nat) : Int) ∧ f10 k = iI ((br k : Nat) : Int)
def PayM (E : wE) (A : Nat → Nat) (g : Nat → va_E) (i : Nat) (py : Nat → Nat) : Prop := ∃ f : Nat → Int32, g (i + 11) = aI E 21 f ∧ ∀ k, k < 21 → f k = iI ((py k : Nat) : Int) ∧ py k ≤ 1000
def HapM (E : wE) (A : Nat → Nat) (g : Nat → va_E) (i hz : Nat) (ta tb : Nat → Nat) : Prop := ∃ (fa fb : Nat → Int32), g (i + 12) = aI E 20 fa ∧ g (i + 13) = aI E 20 fb ∧ hz ≤ 20 ∧ ∀ k, k < hz → (ta k ≤ tb k ∧ 1 ≤ tb k ∧ tb k ≤ 100) ∧ fa k = iI ((ta k : Nat) : Int) ∧ fb k = iI ((tb k : Nat) : Int)
def BoxM (E : wE) (A : Nat → Nat) (g : Nat → va_E) (i bk xz : Nat) (bx px : Nat → Nat) : Prop := ∃ (fx fp : Nat → Int32), g (i + 14) = aI E 6 fx ∧ g (i + 15) = aI E 6 fp ∧ xz ≤ 6 ∧ ∀ k, k < xz → bx k < bk ∧ px k ≤ 1000 ∧ fx k = iI ((bx k : Nat) : Int) ∧ fp k = iI ((px k : Nat) : Int)
theorem BooksM.frame {E : wE} {A : Nat → Nat} {g g' : Nat → va_E} {i bk : Nat} {L : Nat → List (Nat × Nat)} (h : BooksM E A g i bk L) (hf : ∀ j, i + 5 ≤ j → j ≤ i + 8 → g' j = g j) : BooksM E A g' i bk L := by
  obtain ⟨f5, f6, f7, f8, a, b, c, d, e⟩ := h
  exact ⟨f5, f6, f7, f8, (hf _ (by omega) (by omega)).trans a, (hf _ (by omega) (by omega)).trans b, (hf _ (by omega) (by omega)).trans c, (hf _ (by omega) (by omega)).trans d, e⟩
theorem ComM.frame {E : wE} {A : Nat → Nat} {g g' : Nat → va_E} {i bk cz : Nat} {co br : Nat → Nat} (h : ComM E A g i bk cz co br) (h1 : g' (i + 9) = g (i + 9)) (h2 : g' (i + 10) = g (i + 10)) : ComM E A g' i bk cz co br := by
  obtain ⟨f9, f10, a, b, c⟩ := h
  exact ⟨f9, f10, h1.trans a, h2.trans b, c⟩
theorem PayM.frame {E : wE} {A : Nat → Nat} {g g' : Nat → va_E} {i : Nat} {py : Nat → Nat} (h : PayM E A g i py) (h1 : g' (i + 11) = g (i + 11)) : PayM E A g' i py := by
  obtain ⟨f, a, c⟩ := h
  exact ⟨f, h1.trans a, c⟩
theorem HapM.frame {E : wE} {A : Nat → Nat} {g g' : Nat → va_E} {i hz : Nat} {ta tb : Nat → Nat} (h : HapM E A g i hz ta tb) (h1 : g' (i + 12) = g (i + 12)) (h2 : g' (i + 13) = g (i + 13)) : HapM E A g' i hz ta tb := by
  obtain ⟨f, f2, a, b, c⟩ := h
  exact ⟨f, f2, h1.trans a, h2.trans b, c⟩
theorem BoxM.frame {E : wE} {A : Nat → Nat} {g g' : Nat → va_E} {i bk xz : Nat} {bx px : Nat → Nat} (h : BoxM E A g i bk xz bx px) (h1 : g' (i + 14) = g (i + 14)) (h2 : g' (i + 15) = g (i + 15)) : BoxM E A g' i bk xz bx px := by
  obtain ⟨f, f2, a, b, c⟩ := h
  exact ⟨f, f2, h1.trans a, h2.trans b, c⟩
theorem ComM.any {E : wE} {A : Nat → Nat} {g : Nat → va_E} {i bk bk2 cz : Nat} {co br : Nat → Nat} (h : ComM E A g i bk cz co br) (hb : bk ≤ bk2) : ComM E A g i bk2 cz co br := by
  obtain ⟨f9, f10, a, b, c, d⟩ := h
  exact ⟨f9, f10, a, b, c, fun k hk => by obtain ⟨x, y⟩ := d k hk; exact ⟨by omega, y⟩⟩
theorem BoxM.any {E : wE} {A : Nat → Nat} {g : Nat → va_E} {i bk bk2 xz : Nat} {bx px : Nat → Nat} (h : BoxM E A g i bk xz bx px) (hb : bk ≤ bk2) : BoxM E A g i bk2 xz bx px := by
  obtain ⟨f9, f10, a, b, c, d⟩ := h
  exact ⟨f9, f10, a, b, c, fun k hk => by obtain ⟨x, y⟩ := d k hk; exact ⟨by omega, y⟩⟩

set_option maxHeartbeats 4000000 in
set_option maxRecDepth 100000 in
/-- isBook -/
theorem c_X11_isBook (l : Launch) (E : wE) (A : Nat → Nat) (n sz : Nat) (g : Nat → va_E) (i : Nat) (q : Nat → Int) (bk : Nat) (z : Int) (hi : i + 16 < n) (hO : g i = mO A i q) (hq : q 0 = (bk : Int)) (hbk : bk ≤ 16) (hz : I32 z) : Met l yX11_isBook wsX11_isBook ({ frames := 1, cells := 0, slots := 0, locals := 30 } : Room) (va_Pc [.ref (A (i)), .int (iI (z))] (wPre E A n sz g)) (va_Qi (fun r g' => r = iI (if 0 ≤ z ∧ z < (bk : Int) then 1 else 0) ∧ g' = g) (wAt E A n) (wF A n sz)) 0 0 (wF A n sz) := by
  refine x_met (cc := cX11_isBook) (maxL := 2) (ret := (some .boolean)) [.ref (A (i)), .int (iI (z))] (by decide) rfl (Nat.le_of_ble_eq_true rfl) ?_
  intro p e s m below meth c ls X hr hlk hnm hsz hW hl
  have hl : lv_has ls 2 [(0, .ref (A (i))), (1, .int (iI (z)))] := hl
  have lk_0 : ∀ w ∈ wsX110, w ∈ wsX11_isBook := by decide +kernel
  have lk_1 : Cond.fieldLink RX11 116 (TX11 4).1 (TX11 4).2.1 (TX11 4).2.2.1 ∈ wsX11_isBook := by decide +kernel
  have hO : g i = .inr (11, [.ref (A (i + 1)), .ref (A (i + 2)), .ref (A (i + 3)), .ref (A (i + 4)), .int (iI (q 0)), .ref (A (i + 5)), .ref (A (i + 6)), .ref (A (i + 7)), .ref (A (i + 8)), .int (iI (q 1)), .ref (A (i + 9)), .ref (A (i + 10)), .ref (A (i + 11)), .int (iI (q 2)), .ref (A (i + 12)), .ref (A (i + 13)), .int (iI (q 3)), .ref (A (i + 14)), .ref (A (i + 15)), .ref (A (i + 16)), .int (iI (q 4))]) := hO
  refine lv_iload_n X.1 X.2.1 dX11_isBook_0 rfl (lv_at hl 1 rfl) ?_
  refine x_if_lt (tgt := 16) X hz dX11_isBook_1 (by decide) (fun b_1 => ?_) (fun b_1 => ?_)
  · refine x_iconst X dX11_isBook_16 ?_
    exact x_zret X hr hlk (by decide) hW (⟨by rw [if_neg (by omega)], rfl⟩) dX11_isBook_17
  · refine lv_iload_n X.1 X.2.1 dX11_isBook_4 rfl (lv_at hl 1 rfl) ?_
    refine lv_aload_n X.1 X.2.1 dX11_isBook_5 rfl (lv_at hl 0 rfl) ?_
    refine x_get (C := RX11) (T := TX11) (N := 21) X hW (by omega) hO rfl lk_0 4 (by decide) lk_1 rfl dX11_isBook_6 ?_
    refine x_icmp_ge (tgt := 16) X hz ⟨by omega, by omega⟩ dX11_isBook_9 (by decide) (fun b_9 => ?_) (fun b_9 => ?_)
    · refine x_iconst X dX11_isBook_16 ?_
      exact x_zret X hr hlk (by decide) hW (⟨by rw [if_neg (by omega)], rfl⟩) dX11_isBook_17
    · refine x_iconst X dX11_isBook_12 ?_
      refine lv_goto (tgt := 17) X.1 X.2.1 dX11_isBook_13 (by decide) ?_
      exact x_zret X hr hlk (by decide) hW (⟨by rw [if_pos (by omega)], rfl⟩) dX11_isBook_17

def coR (bk cz : Nat) (z : Int) : Int := if 0 ≤ z ∧ z < (bk : Int) then (if cz = 10 then -8 else (cz : Int)) else -2

set_option maxHeartbeats 4000000 in
set_option maxRecDepth 100000 in
/-- comer -/
theorem c_X11_comer (l : Launch) (E : wE) (A : Nat → Nat) (n sz : Nat) (g : Nat → va_E) (i : Nat) (q : Nat → Int) (bk cz : Nat) (co br : Nat → Nat) (z : Int) (hi : i + 16 < n) (hO : g i = mO A i q) (hq0 : q 0 = (bk : Int)) (hq1 : q 1 = (cz : Int)) (hbk : bk ≤ 16) (hC : ComM E A g i bk cz co br) (hz : I32 z) : Met l yX11_comer wsX11_comer ({ frames := 2, cells := 0, slots := 0, locals := 80 } : Room) (va_Pc [.ref (A (i)), .int (iI (z))] (wPre E A n sz g)) (va_Qi (fun r g' => r = iI (coR bk cz z) ∧ (0 ≤ coR bk cz z → g' i = mO A i (va_up q 1 ((cz : Int) + 1)) ∧ ComM E A g' i bk (cz + 1) (va_up co cz z.toNat) (va_up br cz 0)) ∧ (coR bk cz z < 0 → g' = g) ∧ ∀ j, (j ≠ i ∧ j ≠ i + 9 ∧ j ≠ i + 10) → g' j = g j) (wAt E A n) (wF A n sz)) 0 0 (wF A n sz) := by
  refine x_met (cc := cX11_comer) (maxL := 2) (ret := (some .int)) [.ref (A (i)), .int (iI (z))] (by decide) rfl (Nat.le_of_ble_eq_true rfl) ?_
  intro p e s m below meth c ls X hr hlk hnm hsz hW hl
  have hl : lv_has ls 2 [(0, .ref (A (i))), (1, .int (iI (z)))] := hl
  have lk_0 : ∀ w ∈ wsX110, w ∈ wsX11_comer := by decide +kernel
  have lk_1 : Cond.fieldLink RX11 127 (TX11 9).1 (TX11 9).2.1 (TX11 9).2.2.1 ∈ wsX11_comer := by decide +kernel
  have lk_2 : Cond.fieldLink RX11 36 (TX11 10).1 (TX11 10).2.1 (TX11 10).2.2.1 ∈ wsX11_comer := by decide +kernel
  have lk_3 : Cond.fieldLink RX11 39 (TX11 11).1 (TX11 11).2.1 (TX11 11).2.2.1 ∈ wsX11_comer := by decide +kernel
  have hO : g i = .inr (11, [.ref (A (i + 1)), .ref (A (i + 2)), .ref (A (i + 3)), .ref (A (i + 4)), .int (iI (q 0)), .ref (A (i + 5)), .ref (A (i + 6)), .ref (A (i + 7)), .ref (A (i + 8)), .int (iI (q 1)), .ref (A (i + 9)), .ref (A (i + 10)), .ref (A (i + 11)), .int (iI (q 2)), .ref (A (i + 12)), .ref (A (i + 13)), .int (iI (q 3)), .ref (A (i + 14)), .ref (A (i + 15)), .ref (A (i + 16)), .int (iI (q 4))]) := hO
  obtain ⟨f9, f10, h9, h10, hc10, hv⟩ := hC
  have hz1 := hz.1
  have hz2 := hz.2
  refine lv_aload_n X.1 X.2.1 dX11_comer_0 rfl (lv_at hl 0 rfl) ?_
  refine lv_iload_n X.1 X.2.1 dX11_comer_1 rfl (lv_at hl 1 rfl) ?_
  refine x_ci (x_runV (k := 1) (As := [.int (iI (z))]) (rest := []) X hW (c_X11_isBook l E A n _ g i q bk z hi hO hq0 hbk hz) (by omega) hO rfl gX11_comer_X11_isBook rfl rfl rfl (by decide +kernel) ⟨by decide, by decide⟩ rfl hl.1 rfl (Nat.le_of_ble_eq_true rfl) dX11_comer_2 ⟨Nat.zero_le _, Nat.zero_le _⟩) hW (fun r_2 g_2 H locs hp_2 hW => ?_)
  obtain ⟨hr_2, he_2⟩ := hp_2
  rw [he_2] at hW
  subst hr_2
  refine x_if_ne (tgt := 11) X ⟨by split <;> decide, by split <;> decide⟩ dX11_comer_5 (by decide) (fun b_5 => ?_) (fun b_5 => ?_)
  · have hs : 0 ≤ z ∧ z < (bk : Int) := Decidable.byContradiction (fun h => by rw [if_neg h] at b_5; exact b_5 rfl)
    refine lv_aload_n X.1 X.2.1 dX11_comer_11 rfl (lv_at hl 0 rfl) ?_
    refine x_get (C := RX11) (T := TX11) (N := 21) X hW (by omega) hO rfl lk_0 9 (by decide) lk_1 rfl dX11_comer_12 ?_
    refine x_bipush X (by decide) dX11_comer_15 ?_
    refine x_icmp_ne (tgt := 23) X ⟨by omega, by omega⟩ ⟨by decide, by decide⟩ dX11_comer_17 (by decide) (fun b_17 => ?_) (fun b_17 => ?_)
    · have hR0 : coR bk cz z = (cz : Int) := by unfold coR; rw [if_pos hs, if_neg (by omega)]
      refine lv_aload_n X.1 X.2.1 dX11_comer_23 rfl (lv_at hl 0 rfl) ?_
      refine x_get (C := RX11) (T := TX11) (N := 21) X hW (by omega) hO rfl lk_0 10 (by decide) lk_2 rfl dX11_comer_24 ?_
      refine lv_aload_n X.1 X.2.1 dX11_comer_27 rfl (lv_at hl 0 rfl) ?_
      refine x_get (C := RX11) (T := TX11) (N := 21) X hW (by omega) hO rfl lk_0 9 (by decide) lk_1 rfl dX11_comer_28 ?_
      refine lv_iload_n X.1 X.2.1 dX11_comer_31 rfl (lv_at hl 1 rfl) ?_
      refine x_iast X hW (by omega) h9 cz (by omega) (by omega) (by decide) dX11_comer_32 (fun g_32 H locs hg_32 hW => ?_)
      have hO : g_32 i = .inr (11, [.ref (A (i + 1)), .ref (A (i + 2)), .ref (A (i + 3)), .ref (A (i + 4)), .int (iI (q 0)), .ref (A (i + 5)), .ref (A (i + 6)), .ref (A (i + 7)), .ref (A (i + 8)), .int (iI (q 1)), .ref (A (i + 9)), .ref (A (i + 10)), .ref (A (i + 11)), .int (iI (q 2)), .ref (A (i + 12)), .ref (A (i + 13)), .int (iI (q 3)), .ref (A (i + 14)), .ref (A (i + 15)), .ref (A (i + 16)), .int (iI (q 4))]) := by rw [hg_32, va_up_ne _ _ (by omega)]; exact hO
      have h10 : g_32 (i + 10) = aI E 10 f10 := by rw [hg_32, va_up_ne _ _ (by omega)]; exact h10
      have h9 : g_32 (i + 9) = aI E 10 (upd f9 cz (iI (z))) := by rw [hg_32]; exact va_up_self _ _ _
      refine lv_aload_n X.1 X.2.1 dX11_comer_33 rfl (lv_at hl 0 rfl) ?_
      refine x_get (C := RX11) (T := TX11) (N := 21) X hW (by omega) hO rfl lk_0 11 (by decide) lk_3 rfl dX11_comer_34 ?_
      refine lv_aload_n X.1 X.2.1 dX11_comer_37 rfl (lv_at hl 0 rfl) ?_
      refine x_get (C := RX11) (T := TX11) (N := 21) X hW (by omega) hO rfl lk_0 9 (by decide) lk_1 rfl dX11_comer_38 ?_
      refine x_iconst X dX11_comer_41 ?_
      refine x_iast X hW (by omega) h10 cz (by omega) (by omega) (by decide) dX11_comer_42 (fun g_42 H locs hg_42 hW => ?_)
      have hO : g_42 i = .inr (11, [.ref (A (i + 1)), .ref (A (i + 2)), .ref (A (i + 3)), .ref (A (i + 4)), .int (iI (q 0)), .ref (A (i + 5)), .ref (A (i + 6)), .ref (A (i + 7)), .ref (A (i + 8)), .int (iI (q 1)), .ref (A (i + 9)), .ref (A (i + 10)), .ref (A (i + 11)), .int (iI (q 2)), .ref (A (i + 12)), .ref (A (i + 13)), .int (iI (q 3)), .ref (A (i + 14)), .ref (A (i + 15)), .ref (A (i + 16)), .int (iI (q 4))]) := by rw [hg_42, va_up_ne _ _ (by omega)]; exact hO
      have h9 : g_42 (i + 9) = aI E 10 (upd f9 cz (iI (z))) := by rw [hg_42, va_up_ne _ _ (by omega)]; exact h9
      have h10 : g_42 (i + 10) = aI E 10 (upd f10 cz (iI (0))) := by rw [hg_42]; exact va_up_self _ _ _
      refine lv_aload_n X.1 X.2.1 dX11_comer_43 rfl (lv_at hl 0 rfl) ?_
      refine lv_dup X.1 X.2.1 dX11_comer_44 rfl ?_
      refine x_get (C := RX11) (T := TX11) (N := 21) X hW (by omega) hO rfl lk_0 9 (by decide) lk_1 rfl dX11_comer_45 ?_
      refine x_iconst X dX11_comer_48 ?_
      refine x_iadd X dX11_comer_49 ?_
      refine x_seti ((cz : Int) + 1) (by omega) ?_
      refine x_put (C := RX11) (T := TX11) (N := 21) X hW (by omega) hO rfl lk_0 tyX11 tyX11_ok nmX11 9 (by decide) lk_1 rfl rfl rfl (Nat.le_of_ble_eq_true rfl) dX11_comer_50 (fun g_50 H locs hg_50 hW => ?_)
      have h9 : g_50 (i + 9) = aI E 10 (upd f9 cz (iI (z))) := by rw [hg_50, va_up_ne _ _ (by omega)]; exact h9
      have h10 : g_50 (i + 10) = aI E 10 (upd f10 cz (iI (0))) := by rw [hg_50, va_up_ne _ _ (by omega)]; exact h10
      have hO : g_50 i = .inr (11, [.ref (A (i + 1)), .ref (A (i + 2)), .ref (A (i + 3)), .ref (A (i + 4)), .int (iI (q 0)), .ref (A (i + 5)), .ref (A (i + 6)), .ref (A (i + 7)), .ref (A (i + 8)), .int (iI ((cz : Int) + 1)), .ref (A (i + 9)), .ref (A (i + 10)), .ref (A (i + 11)), .int (iI (q 2)), .ref (A (i + 12)), .ref (A (i + 13)), .int (iI (q 3)), .ref (A (i + 14)), .ref (A (i + 15)), .ref (A (i + 16)), .int (iI (q 4))]) := by rw [hg_50]; exact va_up_self _ _ _
      refine lv_aload_n X.1 X.2.1 dX11_comer_53 rfl (lv_at hl 0 rfl) ?_
      refine x_get (C := RX11) (T := TX11) (N := 21) X hW (by omega) hO rfl lk_0 9 (by decide) lk_1 rfl dX11_comer_54 ?_
      refine x_iconst X dX11_comer_57 ?_
      refine x_isub X dX11_comer_58 ?_
      exact x_iret X hr hlk hW (⟨by rw [hR0]; congr 1; omega, fun _ => ⟨hO, _, _, h9, h10, by omega, fun k hk => if ek : k = cz then (by rw [ek, va_up_self, va_up_self, upd_s, upd_s]; exact ⟨by omega, by omega, by congr 1; omega, rfl⟩) else (by rw [va_up_ne _ _ ek, va_up_ne _ _ ek, upd_n ek, upd_n ek]; exact hv k (by omega))⟩, fun h => by rw [hR0] at h; omega, fun j hj => by rw [hg_50, va_up_ne _ _ (by omega), hg_42, va_up_ne _ _ (by omega), hg_32, va_up_ne _ _ (by omega)]⟩) dX11_comer_59
    · have hR0 : coR bk cz z = -8 := by unfold coR; rw [if_pos hs, if_pos (by omega)]
      refine x_bipush X (by decide) dX11_comer_20 ?_
      exact x_iret X hr hlk hW (⟨by rw [hR0], fun h => by rw [hR0] at h; omega, fun _ => rfl, fun _ _ => rfl⟩) dX11_comer_22
  · have hs : ¬ (0 ≤ z ∧ z < (bk : Int)) := fun h => by rw [if_pos h] at b_5; omega
    refine x_bipush X (by decide) dX11_comer_8 ?_
    exact x_iret X hr hlk hW (⟨by unfold coR; rw [if_neg hs], fun h => by unfold coR at h; rw [if_neg hs] at h; omega, fun _ => rfl, fun _ _ => rfl⟩) dX11_comer_10

set_option maxHeartbeats 4000000 in
set_option maxRecDepth 100000 in
/-- dismiss -/
theorem c_X11_dismiss (l : Launch) (E : wE) (A : Nat → Nat) (n sz : Nat) (g : Nat → va_E) (i : Nat) (q : Nat → Int) (hi : i + 16 < n) (hO : g i = mO A i q) : Met l yX11_dismiss wsX11_dismiss ({ frames := 1, cells := 0, slots := 0, locals := 30 } : Room) (va_Pc [.ref (A (i))] (wPre E A n sz g)) (va_Qi (fun r g' => r = iI (q 1) ∧ g' i = mO A i (va_up q 1 0) ∧ ∀ j, j ≠ i → g' j = g j) (wAt E A n) (wF A n sz)) 0 0 (wF A n sz) := by
  refine x_met (cc := cX11_dismiss) (maxL := 2) (ret := (some .int)) [.ref (A (i))] (by decide) rfl (Nat.le_of_ble_eq_true rfl) ?_
  intro p e s m below meth c ls X hr hlk hnm hsz hW hl
  have hl : lv_has ls 2 [(0, .ref (A (i)))] := hl
  have lk_0 : ∀ w ∈ wsX110, w ∈ wsX11_dismiss := by decide +kernel
  have lk_1 : Cond.fieldLink RX11 127 (TX11 9).1 (TX11 9).2.1 (TX11 9).2.2.1 ∈ wsX11_dismiss := by decide +kernel
  have hO : g i = .inr (11, [.ref (A (i + 1)), .ref (A (i + 2)), .ref (A (i + 3)), .ref (A (i + 4)), .int (iI (q 0)), .ref (A (i + 5)), .ref (A (i + 6)), .ref (A (i + 7)), .ref (A (i + 8)), .int (iI (q 1)), .ref (A (i + 9)), .ref (A (i + 10)), .ref (A (i + 11)), .int (iI (q 2)), .ref (A (i + 12)), .ref (A (i + 13)), .int (iI (q 3)), .ref (A (i + 14)), .ref (A (i + 15)), .ref (A (i + 16)), .int (iI (q 4))]) := hO
  refine lv_aload_n X.1 X.2.1 dX11_dismiss_0 rfl (lv_at hl 0 rfl) ?_
  refine x_get (C := RX11) (T := TX11) (N := 21) X hW (by omega) hO rfl lk_0 9 (by decide) lk_1 rfl dX11_dismiss_1 ?_
  refine lv_istore_n (lv' := [(1, .int (iI (q 1))), (0, .ref (A (i)))]) X.1 X.2.1 dX11_dismiss_4 rfl hl (by decide) rfl (fun ls hl => ?_)
  refine lv_aload_n X.1 X.2.1 dX11_dismiss_5 rfl (lv_at hl 1 rfl) ?_
  refine x_iconst X dX11_dismiss_6 ?_
  refine x_put (C := RX11) (T := TX11) (N := 21) X hW (by omega) hO rfl lk_0 tyX11 tyX11_ok nmX11 9 (by decide) lk_1 rfl rfl rfl (Nat.le_of_ble_eq_true rfl) dX11_dismiss_7 (fun g_7 H locs hg_7 hW => ?_)
  have hO : g_7 i = .inr (11, [.ref (A (i + 1)), .ref (A (i + 2)), .ref (A (i + 3)), .ref (A (i + 4)), .int (iI (q 0)), .ref (A (i + 5)), .ref (A (i + 6)), .ref (A (i + 7)), .ref (A (i + 8)), .int (iI (0)), .ref (A (i + 9)), .ref (A (i + 10)), .ref (A (i + 11)), .int (iI (q 2)), .ref (A (i + 12)), .ref (A (i + 13)), .int (iI (q 3)), .ref (A (i + 14)), .ref (A (i + 15)), .ref (A (i + 16)), .int (iI (q 4))]) := by rw [hg_7]; exact va_up_self _ _ _
  refine lv_iload_n X.1 X.2.1 dX11_dismiss_10 rfl (lv_at hl 0 rfl) ?_
  exact x_iret X hr hlk hW (⟨rfl, hO, fun j hj => by rw [hg_7, va_up_ne _ _ hj]⟩) dX11_dismiss_11

set_option maxHeartbeats 4000000 in
set_option maxRecDepth 100000 in
/-- forget -/
theorem c_X11_forget (l : Launch) (E : wE) (A : Nat → Nat) (n sz : Nat) (g : Nat → va_E) (i : Nat) (q : Nat → Int) (hi : i + 16 < n) (hO : g i = mO A i q) : Met l yX11_forget wsX11_forget ({ frames := 1, cells := 0, slots := 0, locals := 30 } : Room) (va_Pc [.ref (A (i))] (wPre E A n sz g)) (va_Qi (fun r g' => r = iI (q 2) ∧ g' i = mO A i (va_up q 2 0) ∧ ∀ j, j ≠ i → g' j = g j) (wAt E A n) (wF A n sz)) 0 0 (wF A n sz) := by
  refine x_met (cc := cX11_forget) (maxL := 2) (ret := (some .int)) [.ref (A (i))] (by decide) rfl (Nat.le_of_ble_eq_true rfl) ?_
  intro p e s m below meth c ls X hr hlk hnm hsz hW hl
  have hl : lv_has ls 2 [(0, .ref (A (i)))] := hl
  have lk_0 : ∀ w ∈ wsX110, w ∈ wsX11_forget := by decide +kernel
  have lk_1 : Cond.fieldLink RX11 169 (TX11 13).1 (TX11 13).2.1 (TX11 13).2.2.1 ∈ wsX11_forget := by decide +kernel
  have hO : g i = .inr (11, [.ref (A (i + 1)), .ref (A (i + 2)), .ref (A (i + 3)), .ref (A (i + 4)), .int (iI (q 0)), .ref (A (i + 5)), .ref (A (i + 6)), .ref (A (i + 7)), .ref (A (i + 8)), .int (iI (q 1)), .ref (A (i + 9)), .ref (A (i + 10)), .ref (A (i + 11)), .int (iI (q 2)), .ref (A (i + 12)), .ref (A (i + 13)), .int (iI (q 3)), .ref (A (i + 14)), .ref (A (i + 15)), .ref (A (i + 16)), .int (iI (q 4))]) := hO
  refine lv_aload_n X.1 X.2.1 dX11_forget_0 rfl (lv_at hl 0 rfl) ?_
  refine x_get (C := RX11) (T := TX11) (N := 21) X hW (by omega) hO rfl lk_0 13 (by decide) lk_1 rfl dX11_forget_1 ?_
  refine lv_istore_n (lv' := [(1, .int (iI (q 2))), (0, .ref (A (i)))]) X.1 X.2.1 dX11_forget_4 rfl hl (by decide) rfl (fun ls hl => ?_)
  refine lv_aload_n X.1 X.2.1 dX11_forget_5 rfl (lv_at hl 1 rfl) ?_
  refine x_iconst X dX11_forget_6 ?_
  refine x_put (C := RX11) (T := TX11) (N := 21) X hW (by omega) hO rfl lk_0 tyX11 tyX11_ok nmX11 13 (by decide) lk_1 rfl rfl rfl (Nat.le_of_ble_eq_true rfl) dX11_forget_7 (fun g_7 H locs hg_7 hW => ?_)
  have hO : g_7 i = .inr (11, [.ref (A (i + 1)), .ref (A (i + 2)), .ref (A (i + 3)), .ref (A (i + 4)), .int (iI (q 0)), .ref (A (i + 5)), .ref (A (i + 6)), .ref (A (i + 7)), .ref (A (i + 8)), .int (iI (q 1)), .ref (A (i + 9)), .ref (A (i + 10)), .ref (A (i + 11)), .int (iI (0)), .ref (A (i + 12)), .ref (A (i + 13)), .int (iI (q 3)), .ref (A (i + 14)), .ref (A (i + 15)), .ref (A (i + 16)), .int (iI (q 4))]) := by rw [hg_7]; exact va_up_self _ _ _
  refine lv_iload_n X.1 X.2.1 dX11_forget_10 rfl (lv_at hl 0 rfl) ?_
  exact x_iret X hr hlk hW (⟨rfl, hO, fun j hj => by rw [hg_7, va_up_ne _ _ hj]⟩) dX11_forget_11

set_option maxHeartbeats 4000000 in
set_option maxRecDepth 100000 in
/-- empty -/
theorem c_X11_empty (l : Launch) (E : wE) (A : Nat → Nat) (n sz : Nat) (g : Nat → va_E) (i : Nat) (q : Nat → Int) (hi : i + 16 < n) (hO : g i = mO A i q) : Met l yX11_empty wsX11_empty ({ frames := 1, cells := 0, slots := 0, locals := 30 } : Room) (va_Pc [.ref (A (i))] (wPre E A n sz g)) (va_Qi (fun r g' => r = iI (q 3) ∧ g' i = mO A i (va_up q 3 0) ∧ ∀ j, j ≠ i → g' j = g j) (wAt E A n) (wF A n sz)) 0 0 (wF A n sz) := by
  refine x_met (cc := cX11_empty) (maxL := 2) (ret := (some .int)) [.ref (A (i))] (by decide) rfl (Nat.le_of_ble_eq_true rfl) ?_
  intro p e s m below meth c ls X hr hlk hnm hsz hW hl
  have hl : lv_has ls 2 [(0, .ref (A (i)))] := hl
  have lk_0 : ∀ w ∈ wsX110, w ∈ wsX11_empty := by decide +kernel
  have lk_1 : Cond.fieldLink RX11 172 (TX11 16).1 (TX11 16).2.1 (TX11 16).2.2.1 ∈ wsX11_empty := by decide +kernel
  have hO : g i = .inr (11, [.ref (A (i + 1)), .ref (A (i + 2)), .ref (A (i + 3)), .ref (A (i + 4)), .int (iI (q 0)), .ref (A (i + 5)), .ref (A (i + 6)), .ref (A (i + 7)), .ref (A (i + 8)), .int (iI (q 1)), .ref (A (i + 9)), .ref (A (i + 10)), .ref (A (i + 11)), .int (iI (q 2)), .ref (A (i + 12)), .ref (A (i + 13)), .int (iI (q 3)), .ref (A (i + 14)), .ref (A (i + 15)), .ref (A (i + 16)), .int (iI (q 4))]) := hO
  refine lv_aload_n X.1 X.2.1 dX11_empty_0 rfl (lv_at hl 0 rfl) ?_
  refine x_get (C := RX11) (T := TX11) (N := 21) X hW (by omega) hO rfl lk_0 16 (by decide) lk_1 rfl dX11_empty_1 ?_
  refine lv_istore_n (lv' := [(1, .int (iI (q 3))), (0, .ref (A (i)))]) X.1 X.2.1 dX11_empty_4 rfl hl (by decide) rfl (fun ls hl => ?_)
  refine lv_aload_n X.1 X.2.1 dX11_empty_5 rfl (lv_at hl 1 rfl) ?_
  refine x_iconst X dX11_empty_6 ?_
  refine x_put (C := RX11) (T := TX11) (N := 21) X hW (by omega) hO rfl lk_0 tyX11 tyX11_ok nmX11 16 (by decide) lk_1 rfl rfl rfl (Nat.le_of_ble_eq_true rfl) dX11_empty_7 (fun g_7 H locs hg_7 hW => ?_)
  have hO : g_7 i = .inr (11, [.ref (A (i + 1)), .ref (A (i + 2)), .ref (A (i + 3)), .ref (A (i + 4)), .int (iI (q 0)), .ref (A (i + 5)), .ref (A (i + 6)), .ref (A (i + 7)), .ref (A (i + 8)), .int (iI (q 1)), .ref (A (i + 9)), .ref (A (i + 10)), .ref (A (i + 11)), .int (iI (q 2)), .ref (A (i + 12)), .ref (A (i + 13)), .int (iI (0)), .ref (A (i + 14)), .ref (A (i + 15)), .ref (A (i + 16)), .int (iI (q 4))]) := by rw [hg_7]; exact va_up_self _ _ _
  refine lv_iload_n X.1 X.2.1 dX11_empty_10 rfl (lv_at hl 0 rfl) ?_
  exact x_iret X hr hlk hW (⟨rfl, hO, fun j hj => by rw [hg_7, va_up_ne _ _ hj]⟩) dX11_empty_11

set_option maxHeartbeats 4000000 in
set_option maxRecDepth 100000 in
/-- tell -/
theorem c_X11_tell (l : Launch) (E : wE) (A : Nat → Nat) (n sz : Nat) (g : Nat → va_E) (i : Nat) (q : Nat → Int) (bk cz : Nat) (co br : Nat → Nat) (z b : Int) (hi : i + 16 < n) (hO : g i = mO A i q) (hq1 : q 1 = (cz : Int)) (hC : ComM E A g i bk cz co br) (hz : I32 z) (hb : I32 b) : Met l yX11_tell wsX11_tell ({ frames := 1, cells := 0, slots := 0, locals := 30 } : Room) (va_Pc [.ref (A (i)), .int (iI (z)), .int (iI (b))] (wPre E A n sz g)) (va_Qi (fun r g' => r = iI (if (0 ≤ z ∧ z < (cz : Int)) ∧ 0 ≤ b ∧ b ≤ 1001 then 1 else 0) ∧ ((0 ≤ z ∧ z < (cz : Int)) ∧ 0 ≤ b ∧ b ≤ 1001 → ComM E A g' i bk cz co (va_up br z.toNat b.toNat)) ∧ (¬ ((0 ≤ z ∧ z < (cz : Int)) ∧ 0 ≤ b ∧ b ≤ 1001) → g' = g) ∧ ∀ j, j ≠ i + 10 → g' j = g j) (wAt E A n) (wF A n sz)) 0 0 (wF A n sz) := by
  refine x_met (cc := cX11_tell) (maxL := 3) (ret := (some .boolean)) [.ref (A (i)), .int (iI (z)), .int (iI (b))] (by decide) rfl (Nat.le_of_ble_eq_true rfl) ?_
  intro p e s m below meth c ls X hr hlk hnm hsz hW hl
  have hl : lv_has ls 3 [(0, .ref (A (i))), (1, .int (iI (z))), (2, .int (iI (b)))] := hl
  have lk_0 : ∀ w ∈ wsX110, w ∈ wsX11_tell := by decide +kernel
  have lk_1 : Cond.fieldLink RX11 127 (TX11 9).1 (TX11 9).2.1 (TX11 9).2.2.1 ∈ wsX11_tell := by decide +kernel
  have lk_2 : Cond.fieldLink RX11 39 (TX11 11).1 (TX11 11).2.1 (TX11 11).2.2.1 ∈ wsX11_tell := by decide +kernel
  have hO : g i = .inr (11, [.ref (A (i + 1)), .ref (A (i + 2)), .ref (A (i + 3)), .ref (A (i + 4)), .int (iI (q 0)), .ref (A (i + 5)), .ref (A (i + 6)), .ref (A (i + 7)), .ref (A (i + 8)), .int (iI (q 1)), .ref (A (i + 9)), .ref (A (i + 10)), .ref (A (i + 11)), .int (iI (q 2)), .ref (A (i + 12)), .ref (A (i + 13)), .int (iI (q 3)), .ref (A (i + 14)), .ref (A (i + 15)), .ref (A (i + 16)), .int (iI (q 4))]) := hO
  obtain ⟨f9, f10, h9, h10, hc10, hv⟩ := hC
  have hz1 := hz.1
  have hz2 := hz.2
  have h9g := h9
  refine lv_iload_n X.1 X.2.1 dX11_tell_0 rfl (lv_at hl 1 rfl) ?_
  refine x_if_lt (tgt := 23) X hz dX11_tell_1 (by decide) (fun b_1 => ?_) (fun b_1 => ?_)
  · refine x_iconst X dX11_tell_23 ?_
    exact x_zret X hr hlk (by decide) hW (⟨by rw [if_neg (by omega)], fun h => absurd h (by omega), fun _ => rfl, fun _ _ => rfl⟩) dX11_tell_24
  · refine lv_iload_n X.1 X.2.1 dX11_tell_4 rfl (lv_at hl 1 rfl) ?_
    refine lv_aload_n X.1 X.2.1 dX11_tell_5 rfl (lv_at hl 0 rfl) ?_
    refine x_get (C := RX11) (T := TX11) (N := 21) X hW (by omega) hO rfl lk_0 9 (by decide) lk_1 rfl dX11_tell_6 ?_
    refine x_icmp_ge (tgt := 23) X hz ⟨by omega, by omega⟩ dX11_tell_9 (by decide) (fun b_9 => ?_) (fun b_9 => ?_)
    · refine x_iconst X dX11_tell_23 ?_
      exact x_zret X hr hlk (by decide) hW (⟨by rw [if_neg (by omega)], fun h => absurd h (by omega), fun _ => rfl, fun _ _ => rfl⟩) dX11_tell_24
    · refine lv_iload_n X.1 X.2.1 dX11_tell_12 rfl (lv_at hl 2 rfl) ?_
      refine x_if_lt (tgt := 23) X hb dX11_tell_13 (by decide) (fun b_13 => ?_) (fun b_13 => ?_)
      · refine x_iconst X dX11_tell_23 ?_
        exact x_zret X hr hlk (by decide) hW (⟨by rw [if_neg (by omega)], fun h => absurd h (by omega), fun _ => rfl, fun _ _ => rfl⟩) dX11_tell_24
      · refine lv_iload_n X.1 X.2.1 dX11_tell_16 rfl (lv_at hl 2 rfl) ?_
        refine x_sipush X (by decide) dX11_tell_17 ?_
        refine x_icmp_le (tgt := 25) X hb ⟨by decide, by decide⟩ dX11_tell_20 (by decide) (fun b_20 => ?_) (fun b_20 => ?_)
        · refine lv_aload_n X.1 X.2.1 dX11_tell_25 rfl (lv_at hl 0 rfl) ?_
          refine x_get (C := RX11) (T := TX11) (N := 21) X hW (by omega) hO rfl lk_0 11 (by decide) lk_2 rfl dX11_tell_26 ?_
          refine lv_iload_n X.1 X.2.1 dX11_tell_29 rfl (lv_at hl 1 rfl) ?_
          refine lv_iload_n X.1 X.2.1 dX11_tell_30 rfl (lv_at hl 2 rfl) ?_
          refine x_seti (((b.toNat : Nat) : Int)) (by omega) ?_
          refine x_iast X hW (by omega) h10 z.toNat (by omega) (by omega) (by decide) dX11_tell_31 (fun g_31 H locs hg_31 hW => ?_)
          have hO : g_31 i = .inr (11, [.ref (A (i + 1)), .ref (A (i + 2)), .ref (A (i + 3)), .ref (A (i + 4)), .int (iI (q 0)), .ref (A (i + 5)), .ref (A (i + 6)), .ref (A (i + 7)), .ref (A (i + 8)), .int (iI (q 1)), .ref (A (i + 9)), .ref (A (i + 10)), .ref (A (i + 11)), .int (iI (q 2)), .ref (A (i + 12)), .ref (A (i + 13)), .int (iI (q 3)), .ref (A (i + 14)), .ref (A (i + 15)), .ref (A (i + 16)), .int (iI (q 4))]) := by rw [hg_31, va_up_ne _ _ (by omega)]; exact hO
          have h10 : g_31 (i + 10) = aI E 10 (upd f10 z.toNat (iI (((b.toNat : Nat) : Int)))) := by rw [hg_31]; exact va_up_self _ _ _
          refine x_iconst X dX11_tell_32 ?_
          exact x_zret X hr hlk (by decide) hW (⟨by rw [if_pos (by omega)], fun _ => ⟨f9, _, (by rw [hg_31, va_up_ne _ _ (by omega)]; exact h9g), h10, hc10, fun k hk => if ek : k = z.toNat then (by rw [ek, va_up_self, upd_s]; have := hv z.toNat (by omega); exact ⟨this.1, by omega, this.2.2.1, rfl⟩) else (by rw [va_up_ne _ _ ek, upd_n ek]; exact hv k hk)⟩, fun h => absurd (show (0 ≤ z ∧ z < (cz : Int)) ∧ 0 ≤ b ∧ b ≤ 1001 by omega) h, fun j hj => by rw [hg_31, va_up_ne _ _ hj]⟩) dX11_tell_33
        · refine x_iconst X dX11_tell_23 ?_
          exact x_zret X hr hlk (by decide) hW (⟨by rw [if_neg (by omega)], fun h => absurd h (by omega), fun _ => rfl, fun _ _ => rfl⟩) dX11_tell_24

def hpR (hz : Nat) (a b : Int) : Int := if (1 ≤ b ∧ b ≤ 100) ∧ 0 ≤ a ∧ a ≤ b then (if hz = 20 then -8 else (hz : Int)) else -2
def bxR (bk xz : Nat) (z p : Int) : Int := if (0 ≤ z ∧ z < (bk : Int)) ∧ 0 ≤ p ∧ p ≤ 1000 then (if xz = 6 then -8 else (xz : Int)) else -2

set_option maxHeartbeats 4000000 in
set_option maxRecDepth 100000 in
/-- happen -/
theorem c_X11_happen (l : Launch) (E : wE) (A : Nat → Nat) (n sz : Nat) (g : Nat → va_E) (i : Nat) (q : Nat → Int) (hz : Nat) (ta tb : Nat → Nat) (a b : Int) (hi : i + 16 < n) (hO : g i = mO A i q) (hq2 : q 2 = (hz : Int)) (hH : HapM E A g i hz ta tb) (ha : I32 a) (hb : I32 b) : Met l yX11_happen wsX11_happen ({ frames := 1, cells := 0, slots := 0, locals := 30 } : Room) (va_Pc [.ref (A (i)), .int (iI (a)), .int (iI (b))] (wPre E A n sz g)) (va_Qi (fun r g' => r = iI (hpR hz a b) ∧ (0 ≤ hpR hz a b → g' i = mO A i (va_up q 2 ((hz : Int) + 1)) ∧ HapM E A g' i (hz + 1) (va_up ta hz a.toNat) (va_up tb hz b.toNat)) ∧ (hpR hz a b < 0 → g' = g) ∧ ∀ j, (j ≠ i ∧ j ≠ i + 12 ∧ j ≠ i + 13) → g' j = g j) (wAt E A n) (wF A n sz)) 0 0 (wF A n sz) := by
  refine x_met (cc := cX11_happen) (maxL := 3) (ret := (some .int)) [.ref (A (i)), .int (iI (a)), .int (iI (b))] (by decide) rfl (Nat.le_of_ble_eq_true rfl) ?_
  intro p e s m below meth c ls X hr hlk hnm hsz hW hl
  have hl : lv_has ls 3 [(0, .ref (A (i))), (1, .int (iI (a))), (2, .int (iI (b)))] := hl
  have lk_0 : ∀ w ∈ wsX110, w ∈ wsX11_happen := by decide +kernel
  have lk_1 : Cond.fieldLink RX11 169 (TX11 13).1 (TX11 13).2.1 (TX11 13).2.2.1 ∈ wsX11_happen := by decide +kernel
  have lk_2 : Cond.fieldLink RX11 45 (TX11 14).1 (TX11 14).2.1 (TX11 14).2.2.1 ∈ wsX11_happen := by decide +kernel
  have lk_3 : Cond.fieldLink RX11 48 (TX11 15).1 (TX11 15).2.1 (TX11 15).2.2.1 ∈ wsX11_happen := by decide +kernel
  have hO : g i = .inr (11, [.ref (A (i + 1)), .ref (A (i + 2)), .ref (A (i + 3)), .ref (A (i + 4)), .int (iI (q 0)), .ref (A (i + 5)), .ref (A (i + 6)), .ref (A (i + 7)), .ref (A (i + 8)), .int (iI (q 1)), .ref (A (i + 9)), .ref (A (i + 10)), .ref (A (i + 11)), .int (iI (q 2)), .ref (A (i + 12)), .ref (A (i + 13)), .int (iI (q 3)), .ref (A (i + 14)), .ref (A (i + 15)), .ref (A (i + 16)), .int (iI (q 4))]) := hO
  obtain ⟨fa, fb, h12, h13, hc20, hv⟩ := hH
  refine lv_iload_n X.1 X.2.1 dX11_happen_0 rfl (lv_at hl 2 rfl) ?_
  refine x_iconst X dX11_happen_1 ?_
  refine x_icmp_lt (tgt := 20) X hb ⟨by decide, by decide⟩ dX11_happen_2 (by decide) (fun b_2 => ?_) (fun b_2 => ?_)
  · refine x_bipush X (by decide) dX11_happen_20 ?_
    exact x_iret X hr hlk hW (⟨by unfold hpR; rw [if_neg (by omega)], fun h => by unfold hpR at h; rw [if_neg (by omega)] at h; omega, fun _ => rfl, fun _ _ => rfl⟩) dX11_happen_22
  · refine lv_iload_n X.1 X.2.1 dX11_happen_5 rfl (lv_at hl 2 rfl) ?_
    refine x_bipush X (by decide) dX11_happen_6 ?_
    refine x_icmp_gt (tgt := 20) X hb ⟨by decide, by decide⟩ dX11_happen_8 (by decide) (fun b_8 => ?_) (fun b_8 => ?_)
    · refine x_bipush X (by decide) dX11_happen_20 ?_
      exact x_iret X hr hlk hW (⟨by unfold hpR; rw [if_neg (by omega)], fun h => by unfold hpR at h; rw [if_neg (by omega)] at h; omega, fun _ => rfl, fun _ _ => rfl⟩) dX11_happen_22
    · refine lv_iload_n X.1 X.2.1 dX11_happen_11 rfl (lv_at hl 1 rfl) ?_
      refine x_if_lt (tgt := 20) X ha dX11_happen_12 (by decide) (fun b_12 => ?_) (fun b_12 => ?_)
      · refine x_bipush X (by decide) dX11_happen_20 ?_
        exact x_iret X hr hlk hW (⟨by unfold hpR; rw [if_neg (by omega)], fun h => by unfold hpR at h; rw [if_neg (by omega)] at h; omega, fun _ => rfl, fun _ _ => rfl⟩) dX11_happen_22
      · refine lv_iload_n X.1 X.2.1 dX11_happen_15 rfl (lv_at hl 1 rfl) ?_
        refine lv_iload_n X.1 X.2.1 dX11_happen_16 rfl (lv_at hl 2 rfl) ?_
        refine x_icmp_le (tgt := 23) X ha hb dX11_happen_17 (by decide) (fun b_17 => ?_) (fun b_17 => ?_)
        · have hc5 : (1 ≤ b ∧ b ≤ 100) ∧ 0 ≤ a ∧ a ≤ b := by omega
          refine lv_aload_n X.1 X.2.1 dX11_happen_23 rfl (lv_at hl 0 rfl) ?_
          refine x_get (C := RX11) (T := TX11) (N := 21) X hW (by omega) hO rfl lk_0 13 (by decide) lk_1 rfl dX11_happen_24 ?_
          refine x_bipush X (by decide) dX11_happen_27 ?_
          refine x_icmp_ne (tgt := 35) X ⟨by omega, by omega⟩ ⟨by decide, by decide⟩ dX11_happen_29 (by decide) (fun b_29 => ?_) (fun b_29 => ?_)
          · have hR0 : hpR hz a b = (hz : Int) := by unfold hpR; rw [if_pos hc5, if_neg (by omega)]
            refine lv_aload_n X.1 X.2.1 dX11_happen_35 rfl (lv_at hl 0 rfl) ?_
            refine x_get (C := RX11) (T := TX11) (N := 21) X hW (by omega) hO rfl lk_0 14 (by decide) lk_2 rfl dX11_happen_36 ?_
            refine lv_aload_n X.1 X.2.1 dX11_happen_39 rfl (lv_at hl 0 rfl) ?_
            refine x_get (C := RX11) (T := TX11) (N := 21) X hW (by omega) hO rfl lk_0 13 (by decide) lk_1 rfl dX11_happen_40 ?_
            refine lv_iload_n X.1 X.2.1 dX11_happen_43 rfl (lv_at hl 1 rfl) ?_
            refine x_seti (((a.toNat : Nat) : Int)) (by omega) ?_
            refine x_iast X hW (by omega) h12 hz (by omega) (by omega) (by decide) dX11_happen_44 (fun g_44 H locs hg_44 hW => ?_)
            have hO : g_44 i = .inr (11, [.ref (A (i + 1)), .ref (A (i + 2)), .ref (A (i + 3)), .ref (A (i + 4)), .int (iI (q 0)), .ref (A (i + 5)), .ref (A (i + 6)), .ref (A (i + 7)), .ref (A (i + 8)), .int (iI (q 1)), .ref (A (i + 9)), .ref (A (i + 10)), .ref (A (i + 11)), .int (iI (q 2)), .ref (A (i + 12)), .ref (A (i + 13)), .int (iI (q 3)), .ref (A (i + 14)), .ref (A (i + 15)), .ref (A (i + 16)), .int (iI (q 4))]) := by rw [hg_44, va_up_ne _ _ (by omega)]; exact hO
            have h13 : g_44 (i + 13) = aI E 20 fb := by rw [hg_44, va_up_ne _ _ (by omega)]; exact h13
            have h12 : g_44 (i + 12) = aI E 20 (upd fa hz (iI (((a.toNat : Nat) : Int)))) := by rw [hg_44]; exact va_up_self _ _ _
            refine lv_aload_n X.1 X.2.1 dX11_happen_45 rfl (lv_at hl 0 rfl) ?_
            refine x_get (C := RX11) (T := TX11) (N := 21) X hW (by omega) hO rfl lk_0 15 (by decide) lk_3 rfl dX11_happen_46 ?_
            refine lv_aload_n X.1 X.2.1 dX11_happen_49 rfl (lv_at hl 0 rfl) ?_
            refine x_get (C := RX11) (T := TX11) (N := 21) X hW (by omega) hO rfl lk_0 13 (by decide) lk_1 rfl dX11_happen_50 ?_
            refine lv_iload_n X.1 X.2.1 dX11_happen_53 rfl (lv_at hl 2 rfl) ?_
            refine x_seti (((b.toNat : Nat) : Int)) (by omega) ?_
            refine x_iast X hW (by omega) h13 hz (by omega) (by omega) (by decide) dX11_happen_54 (fun g_54 H locs hg_54 hW => ?_)
            have hO : g_54 i = .inr (11, [.ref (A (i + 1)), .ref (A (i + 2)), .ref (A (i + 3)), .ref (A (i + 4)), .int (iI (q 0)), .ref (A (i + 5)), .ref (A (i + 6)), .ref (A (i + 7)), .ref (A (i + 8)), .int (iI (q 1)), .ref (A (i + 9)), .ref (A (i + 10)), .ref (A (i + 11)), .int (iI (q 2)), .ref (A (i + 12)), .ref (A (i + 13)), .int (iI (q 3)), .ref (A (i + 14)), .ref (A (i + 15)), .ref (A (i + 16)), .int (iI (q 4))]) := by rw [hg_54, va_up_ne _ _ (by omega)]; exact hO
            have h12 : g_54 (i + 12) = aI E 20 (upd fa hz (iI (((a.toNat : Nat) : Int)))) := by rw [hg_54, va_up_ne _ _ (by omega)]; exact h12
            have h13 : g_54 (i + 13) = aI E 20 (upd fb hz (iI (((b.toNat : Nat) : Int)))) := by rw [hg_54]; exact va_up_self _ _ _
            refine lv_aload_n X.1 X.2.1 dX11_happen_55 rfl (lv_at hl 0 rfl) ?_
            refine lv_dup X.1 X.2.1 dX11_happen_56 rfl ?_
            refine x_get (C := RX11) (T := TX11) (N := 21) X hW (by omega) hO rfl lk_0 13 (by decide) lk_1 rfl dX11_happen_57 ?_
            refine x_iconst X dX11_happen_60 ?_
            refine x_iadd X dX11_happen_61 ?_
            refine x_seti ((hz : Int) + 1) (by omega) ?_
            refine x_put (C := RX11) (T := TX11) (N := 21) X hW (by omega) hO rfl lk_0 tyX11 tyX11_ok nmX11 13 (by decide) lk_1 rfl rfl rfl (Nat.le_of_ble_eq_true rfl) dX11_happen_62 (fun g_62 H locs hg_62 hW => ?_)
            have h12 : g_62 (i + 12) = aI E 20 (upd fa hz (iI (((a.toNat : Nat) : Int)))) := by rw [hg_62, va_up_ne _ _ (by omega)]; exact h12
            have h13 : g_62 (i + 13) = aI E 20 (upd fb hz (iI (((b.toNat : Nat) : Int)))) := by rw [hg_62, va_up_ne _ _ (by omega)]; exact h13
            have hO : g_62 i = .inr (11, [.ref (A (i + 1)), .ref (A (i + 2)), .ref (A (i + 3)), .ref (A (i + 4)), .int (iI (q 0)), .ref (A (i + 5)), .ref (A (i + 6)), .ref (A (i + 7)), .ref (A (i + 8)), .int (iI (q 1)), .ref (A (i + 9)), .ref (A (i + 10)), .ref (A (i + 11)), .int (iI ((hz : Int) + 1)), .ref (A (i + 12)), .ref (A (i + 13)), .int (iI (q 3)), .ref (A (i + 14)), .ref (A (i + 15)), .ref (A (i + 16)), .int (iI (q 4))]) := by rw [hg_62]; exact va_up_self _ _ _
            refine lv_aload_n X.1 X.2.1 dX11_happen_65 rfl (lv_at hl 0 rfl) ?_
            refine x_get (C := RX11) (T := TX11) (N := 21) X hW (by omega) hO rfl lk_0 13 (by decide) lk_1 rfl dX11_happen_66 ?_
            refine x_iconst X dX11_happen_69 ?_
            refine x_isub X dX11_happen_70 ?_
            exact x_iret X hr hlk hW (⟨by rw [hR0]; congr 1; omega, fun _ => ⟨hO, _, _, h12, h13, by omega, fun k hk => if ek : k = hz then (by rw [ek, va_up_self, va_up_self, upd_s, upd_s]; exact ⟨⟨by omega, by omega, by omega⟩, rfl, rfl⟩) else (by rw [va_up_ne _ _ ek, va_up_ne _ _ ek, upd_n ek, upd_n ek]; exact hv k (by omega))⟩, fun h => by rw [hR0] at h; omega, fun j hj => by rw [hg_62, va_up_ne _ _ (by omega), hg_54, va_up_ne _ _ (by omega), hg_44, va_up_ne _ _ (by omega)]⟩) dX11_happen_71
          · have hR0 : hpR hz a b = -8 := by unfold hpR; rw [if_pos hc5, if_pos (by omega)]
            refine x_bipush X (by decide) dX11_happen_32 ?_
            exact x_iret X hr hlk hW (⟨by rw [hR0], fun h => by rw [hR0] at h; omega, fun _ => rfl, fun _ _ => rfl⟩) dX11_happen_34
        · refine x_bipush X (by decide) dX11_happen_20 ?_
          exact x_iret X hr hlk hW (⟨by unfold hpR; rw [if_neg (by omega)], fun h => by unfold hpR at h; rw [if_neg (by omega)] at h; omega, fun _ => rfl, fun _ _ => rfl⟩) dX11_happen_22

set_option maxHeartbeats 4000000 in
set_option maxRecDepth 100000 in
/-- box -/
theorem c_X11_box (l : Launch) (E : wE) (A : Nat → Nat) (n sz : Nat) (g : Nat → va_E) (i : Nat) (q : Nat → Int) (bk xz : Nat) (bx px : Nat → Nat) (z p9 : Int) (hi : i + 16 < n) (hO : g i = mO A i q) (hq0 : q 0 = (bk : Int)) (hq3 : q 3 = (xz : Int)) (hbk : bk ≤ 16) (hB : BoxM E A g i bk xz bx px) (hz : I32 z) (hp9 : I32 p9) : Met l yX11_box wsX11_box ({ frames := 2, cells := 0, slots := 0, locals := 80 } : Room) (va_Pc [.ref (A (i)), .int (iI (z)), .int (iI (p9))] (wPre E A n sz g)) (va_Qi (fun r g' => r = iI (bxR bk xz z p9) ∧ (0 ≤ bxR bk xz z p9 → g' i = mO A i (va_up q 3 ((xz : Int) + 1)) ∧ BoxM E A g' i bk (xz + 1) (va_up bx xz z.toNat) (va_up px xz p9.toNat)) ∧ (bxR bk xz z p9 < 0 → g' = g) ∧ ∀ j, (j ≠ i ∧ j ≠ i + 14 ∧ j ≠ i + 15) → g' j = g j) (wAt E A n) (wF A n sz)) 0 0 (wF A n sz) := by
  refine x_met (cc := cX11_box) (maxL := 3) (ret := (some .int)) [.ref (A (i)), .int (iI (z)), .int (iI (p9))] (by decide) rfl (Nat.le_of_ble_eq_true rfl) ?_
  intro p e s m below meth c ls X hr hlk hnm hsz hW hl
  have hl : lv_has ls 3 [(0, .ref (A (i))), (1, .int (iI (z))), (2, .int (iI (p9)))] := hl
  have lk_0 : ∀ w ∈ wsX110, w ∈ wsX11_box := by decide +kernel
  have lk_1 : Cond.fieldLink RX11 172 (TX11 16).1 (TX11 16).2.1 (TX11 16).2.2.1 ∈ wsX11_box := by decide +kernel
  have lk_2 : Cond.fieldLink RX11 51 (TX11 17).1 (TX11 17).2.1 (TX11 17).2.2.1 ∈ wsX11_box := by decide +kernel
  have lk_3 : Cond.fieldLink RX11 54 (TX11 18).1 (TX11 18).2.1 (TX11 18).2.2.1 ∈ wsX11_box := by decide +kernel
  have hO : g i = .inr (11, [.ref (A (i + 1)), .ref (A (i + 2)), .ref (A (i + 3)), .ref (A (i + 4)), .int (iI (q 0)), .ref (A (i + 5)), .ref (A (i + 6)), .ref (A (i + 7)), .ref (A (i + 8)), .int (iI (q 1)), .ref (A (i + 9)), .ref (A (i + 10)), .ref (A (i + 11)), .int (iI (q 2)), .ref (A (i + 12)), .ref (A (i + 13)), .int (iI (q 3)), .ref (A (i + 14)), .ref (A (i + 15)), .ref (A (i + 16)), .int (iI (q 4))]) := hO
  obtain ⟨fx, fp, h14, h15, hc6, hv⟩ := hB
  have hz1 := hz.1
  have hz2 := hz.2
  refine lv_aload_n X.1 X.2.1 dX11_box_0 rfl (lv_at hl 0 rfl) ?_
  refine lv_iload_n X.1 X.2.1 dX11_box_1 rfl (lv_at hl 1 rfl) ?_
  refine x_ci (x_runV (k := 1) (As := [.int (iI (z))]) (rest := []) X hW (c_X11_isBook l E A n _ g i q bk z hi hO hq0 hbk hz) (by omega) hO rfl gX11_box_X11_isBook rfl rfl rfl (by decide +kernel) ⟨by decide, by decide⟩ rfl hl.1 rfl (Nat.le_of_ble_eq_true rfl) dX11_box_2 ⟨Nat.zero_le _, Nat.zero_le _⟩) hW (fun r_2 g_2 H locs hp_2 hW => ?_)
  obtain ⟨hr_2, he_2⟩ := hp_2
  rw [he_2] at hW
  subst hr_2
  refine x_if_eq (tgt := 19) X ⟨by split <;> decide, by split <;> decide⟩ dX11_box_5 (by decide) (fun b_5 => ?_) (fun b_5 => ?_)
  · have hs : ¬ (0 ≤ z ∧ z < (bk : Int)) := fun h => by rw [if_pos h] at b_5; omega
    refine x_bipush X (by decide) dX11_box_19 ?_
    exact x_iret X hr hlk hW (⟨by unfold bxR; rw [if_neg (by omega)], fun h => by unfold bxR at h; rw [if_neg (by omega)] at h; omega, fun _ => rfl, fun _ _ => rfl⟩) dX11_box_21
  · have hs : 0 ≤ z ∧ z < (bk : Int) := Decidable.byContradiction (fun h => by rw [if_neg h] at b_5; exact b_5 rfl)
    refine lv_iload_n X.1 X.2.1 dX11_box_8 rfl (lv_at hl 2 rfl) ?_
    refine x_if_lt (tgt := 19) X hp9 dX11_box_9 (by decide) (fun b_9 => ?_) (fun b_9 => ?_)
    · refine x_bipush X (by decide) dX11_box_19 ?_
      exact x_iret X hr hlk hW (⟨by unfold bxR; rw [if_neg (by omega)], fun h => by unfold bxR at h; rw [if_neg (by omega)] at h; omega, fun _ => rfl, fun _ _ => rfl⟩) dX11_box_21
    · refine lv_iload_n X.1 X.2.1 dX11_box_12 rfl (lv_at hl 2 rfl) ?_
      refine x_sipush X (by decide) dX11_box_13 ?_
      refine x_icmp_le (tgt := 22) X hp9 ⟨by decide, by decide⟩ dX11_box_16 (by decide) (fun b_16 => ?_) (fun b_16 => ?_)
      · have hc5 : (0 ≤ z ∧ z < (bk : Int)) ∧ 0 ≤ p9 ∧ p9 ≤ 1000 := by omega
        refine lv_aload_n X.1 X.2.1 dX11_box_22 rfl (lv_at hl 0 rfl) ?_
        refine x_get (C := RX11) (T := TX11) (N := 21) X hW (by omega) hO rfl lk_0 16 (by decide) lk_1 rfl dX11_box_23 ?_
        refine x_bipush X (by decide) dX11_box_26 ?_
        refine x_icmp_ne (tgt := 34) X ⟨by omega, by omega⟩ ⟨by decide, by decide⟩ dX11_box_28 (by decide) (fun b_28 => ?_) (fun b_28 => ?_)
        · have hR0 : bxR bk xz z p9 = (xz : Int) := by unfold bxR; rw [if_pos hc5, if_neg (by omega)]
          refine lv_aload_n X.1 X.2.1 dX11_box_34 rfl (lv_at hl 0 rfl) ?_
          refine x_get (C := RX11) (T := TX11) (N := 21) X hW (by omega) hO rfl lk_0 17 (by decide) lk_2 rfl dX11_box_35 ?_
          refine lv_aload_n X.1 X.2.1 dX11_box_38 rfl (lv_at hl 0 rfl) ?_
          refine x_get (C := RX11) (T := TX11) (N := 21) X hW (by omega) hO rfl lk_0 16 (by decide) lk_1 rfl dX11_box_39 ?_
          refine lv_iload_n X.1 X.2.1 dX11_box_42 rfl (lv_at hl 1 rfl) ?_
          refine x_seti (((z.toNat : Nat) : Int)) (by omega) ?_
          refine x_iast X hW (by omega) h14 xz (by omega) (by omega) (by decide) dX11_box_43 (fun g_43 H locs hg_43 hW => ?_)
          have hO : g_43 i = .inr (11, [.ref (A (i + 1)), .ref (A (i + 2)), .ref (A (i + 3)), .ref (A (i + 4)), .int (iI (q 0)), .ref (A (i + 5)), .ref (A (i + 6)), .ref (A (i + 7)), .ref (A (i + 8)), .int (iI (q 1)), .ref (A (i + 9)), .ref (A (i + 10)), .ref (A (i + 11)), .int (iI (q 2)), .ref (A (i + 12)), .ref (A (i + 13)), .int (iI (q 3)), .ref (A (i + 14)), .ref (A (i + 15)), .ref (A (i + 16)), .int (iI (q 4))]) := by rw [hg_43, va_up_ne _ _ (by omega)]; exact hO
          have h15 : g_43 (i + 15) = aI E 6 fp := by rw [hg_43, va_up_ne _ _ (by omega)]; exact h15
          have h14 : g_43 (i + 14) = aI E 6 (upd fx xz (iI (((z.toNat : Nat) : Int)))) := by rw [hg_43]; exact va_up_self _ _ _
          refine lv_aload_n X.1 X.2.1 dX11_box_44 rfl (lv_at hl 0 rfl) ?_
          refine x_get (C := RX11) (T := TX11) (N := 21) X hW (by omega) hO rfl lk_0 18 (by decide) lk_3 rfl dX11_box_45 ?_
          refine lv_aload_n X.1 X.2.1 dX11_box_48 rfl (lv_at hl 0 rfl) ?_
          refine x_get (C := RX11) (T := TX11) (N := 21) X hW (by omega) hO rfl lk_0 16 (by decide) lk_1 rfl dX11_box_49 ?_
          refine lv_iload_n X.1 X.2.1 dX11_box_52 rfl (lv_at hl 2 rfl) ?_
          refine x_seti (((p9.toNat : Nat) : Int)) (by omega) ?_
          refine x_iast X hW (by omega) h15 xz (by omega) (by omega) (by decide) dX11_box_53 (fun g_53 H locs hg_53 hW => ?_)
          have hO : g_53 i = .inr (11, [.ref (A (i + 1)), .ref (A (i + 2)), .ref (A (i + 3)), .ref (A (i + 4)), .int (iI (q 0)), .ref (A (i + 5)), .ref (A (i + 6)), .ref (A (i + 7)), .ref (A (i + 8)), .int (iI (q 1)), .ref (A (i + 9)), .ref (A (i + 10)), .ref (A (i + 11)), .int (iI (q 2)), .ref (A (i + 12)), .ref (A (i + 13)), .int (iI (q 3)), .ref (A (i + 14)), .ref (A (i + 15)), .ref (A (i + 16)), .int (iI (q 4))]) := by rw [hg_53, va_up_ne _ _ (by omega)]; exact hO
          have h14 : g_53 (i + 14) = aI E 6 (upd fx xz (iI (((z.toNat : Nat) : Int)))) := by rw [hg_53, va_up_ne _ _ (by omega)]; exact h14
          have h15 : g_53 (i + 15) = aI E 6 (upd fp xz (iI (((p9.toNat : Nat) : Int)))) := by rw [hg_53]; exact va_up_self _ _ _
          refine lv_aload_n X.1 X.2.1 dX11_box_54 rfl (lv_at hl 0 rfl) ?_
          refine lv_dup X.1 X.2.1 dX11_box_55 rfl ?_
          refine x_get (C := RX11) (T := TX11) (N := 21) X hW (by omega) hO rfl lk_0 16 (by decide) lk_1 rfl dX11_box_56 ?_
          refine x_iconst X dX11_box_59 ?_
          refine x_iadd X dX11_box_60 ?_
          refine x_seti ((xz : Int) + 1) (by omega) ?_
          refine x_put (C := RX11) (T := TX11) (N := 21) X hW (by omega) hO rfl lk_0 tyX11 tyX11_ok nmX11 16 (by decide) lk_1 rfl rfl rfl (Nat.le_of_ble_eq_true rfl) dX11_box_61 (fun g_61 H locs hg_61 hW => ?_)
          have h14 : g_61 (i + 14) = aI E 6 (upd fx xz (iI (((z.toNat : Nat) : Int)))) := by rw [hg_61, va_up_ne _ _ (by omega)]; exact h14
          have h15 : g_61 (i + 15) = aI E 6 (upd fp xz (iI (((p9.toNat : Nat) : Int)))) := by rw [hg_61, va_up_ne _ _ (by omega)]; exact h15
          have hO : g_61 i = .inr (11, [.ref (A (i + 1)), .ref (A (i + 2)), .ref (A (i + 3)), .ref (A (i + 4)), .int (iI (q 0)), .ref (A (i + 5)), .ref (A (i + 6)), .ref (A (i + 7)), .ref (A (i + 8)), .int (iI (q 1)), .ref (A (i + 9)), .ref (A (i + 10)), .ref (A (i + 11)), .int (iI (q 2)), .ref (A (i + 12)), .ref (A (i + 13)), .int (iI ((xz : Int) + 1)), .ref (A (i + 14)), .ref (A (i + 15)), .ref (A (i + 16)), .int (iI (q 4))]) := by rw [hg_61]; exact va_up_self _ _ _
          refine lv_aload_n X.1 X.2.1 dX11_box_64 rfl (lv_at hl 0 rfl) ?_
          refine x_get (C := RX11) (T := TX11) (N := 21) X hW (by omega) hO rfl lk_0 16 (by decide) lk_1 rfl dX11_box_65 ?_
          refine x_iconst X dX11_box_68 ?_
          refine x_isub X dX11_box_69 ?_
          exact x_iret X hr hlk hW (⟨by rw [hR0]; congr 1; omega, fun _ => ⟨hO, _, _, h14, h15, by omega, fun k hk => if ek : k = xz then (by rw [ek, va_up_self, va_up_self, upd_s, upd_s]; exact ⟨by omega, by omega, rfl, rfl⟩) else (by rw [va_up_ne _ _ ek, va_up_ne _ _ ek, upd_n ek, upd_n ek]; exact hv k (by omega))⟩, fun h => by rw [hR0] at h; omega, fun j hj => by rw [hg_61, va_up_ne _ _ (by omega), hg_53, va_up_ne _ _ (by omega), hg_43, va_up_ne _ _ (by omega)]⟩) dX11_box_70
        · have hR0 : bxR bk xz z p9 = -8 := by unfold bxR; rw [if_pos hc5, if_pos (by omega)]
          refine x_bipush X (by decide) dX11_box_31 ?_
          exact x_iret X hr hlk hW (⟨by rw [hR0], fun h => by rw [hR0] at h; omega, fun _ => rfl, fun _ _ => rfl⟩) dX11_box_33
      · refine x_bipush X (by decide) dX11_box_19 ?_
        exact x_iret X hr hlk hW (⟨by unfold bxR; rw [if_neg (by omega)], fun h => by unfold bxR at h; rw [if_neg (by omega)] at h; omega, fun _ => rfl, fun _ _ => rfl⟩) dX11_box_21

set_option maxHeartbeats 4000000 in
set_option maxRecDepth 100000 in
/-- pay -/
theorem c_X11_pay (l : Launch) (E : wE) (A : Nat → Nat) (n sz : Nat) (g : Nat → va_E) (i : Nat) (q : Nat → Int) (py : Nat → Nat) (z b : Int) (hi : i + 16 < n) (hO : g i = mO A i q) (hP : PayM E A g i py) (hz : I32 z) (hb : I32 b) : Met l yX11_pay wsX11_pay ({ frames := 1, cells := 0, slots := 0, locals := 30 } : Room) (va_Pc [.ref (A (i)), .int (iI (z)), .int (iI (b))] (wPre E A n sz g)) (va_Qi (fun r g' => r = iI (if (1 ≤ z ∧ z ≤ 20) ∧ 0 ≤ b ∧ b ≤ 1000 then 1 else 0) ∧ ((1 ≤ z ∧ z ≤ 20) ∧ 0 ≤ b ∧ b ≤ 1000 → PayM E A g' i (va_up py z.toNat b.toNat)) ∧ (¬ ((1 ≤ z ∧ z ≤ 20) ∧ 0 ≤ b ∧ b ≤ 1000) → g' = g) ∧ ∀ j, j ≠ i + 11 → g' j = g j) (wAt E A n) (wF A n sz)) 0 0 (wF A n sz) := by
  refine x_met (cc := cX11_pay) (maxL := 3) (ret := (some .boolean)) [.ref (A (i)), .int (iI (z)), .int (iI (b))] (by decide) rfl (Nat.le_of_ble_eq_true rfl) ?_
  intro p e s m below meth c ls X hr hlk hnm hsz hW hl
  have hl : lv_has ls 3 [(0, .ref (A (i))), (1, .int (iI (z))), (2, .int (iI (b)))] := hl
  have lk_0 : ∀ w ∈ wsX110, w ∈ wsX11_pay := by decide +kernel
  have lk_1 : Cond.fieldLink RX11 42 (TX11 12).1 (TX11 12).2.1 (TX11 12).2.2.1 ∈ wsX11_pay := by decide +kernel
  have hO : g i = .inr (11, [.ref (A (i + 1)), .ref (A (i + 2)), .ref (A (i + 3)), .ref (A (i + 4)), .int (iI (q 0)), .ref (A (i + 5)), .ref (A (i + 6)), .ref (A (i + 7)), .ref (A (i + 8)), .int (iI (q 1)), .ref (A (i + 9)), .ref (A (i + 10)), .ref (A (i + 11)), .int (iI (q 2)), .ref (A (i + 12)), .ref (A (i + 13)), .int (iI (q 3)), .ref (A (i + 14)), .ref (A (i + 15)), .ref (A (i + 16)), .int (iI (q 4))]) := hO
  obtain ⟨f, h11, hv⟩ := hP
  refine lv_iload_n X.1 X.2.1 dX11_pay_0 rfl (lv_at hl 1 rfl) ?_
  refine x_iconst X dX11_pay_1 ?_
  refine x_icmp_lt (tgt := 22) X hz ⟨by decide, by decide⟩ dX11_pay_2 (by decide) (fun b_2 => ?_) (fun b_2 => ?_)
  · refine x_iconst X dX11_pay_22 ?_
    exact x_zret X hr hlk (by decide) hW (⟨by rw [if_neg (by omega)], fun h => absurd h (by omega), fun _ => rfl, fun _ _ => rfl⟩) dX11_pay_23
  · refine lv_iload_n X.1 X.2.1 dX11_pay_5 rfl (lv_at hl 1 rfl) ?_
    refine x_bipush X (by decide) dX11_pay_6 ?_
    refine x_icmp_gt (tgt := 22) X hz ⟨by decide, by decide⟩ dX11_pay_8 (by decide) (fun b_8 => ?_) (fun b_8 => ?_)
    · refine x_iconst X dX11_pay_22 ?_
      exact x_zret X hr hlk (by decide) hW (⟨by rw [if_neg (by omega)], fun h => absurd h (by omega), fun _ => rfl, fun _ _ => rfl⟩) dX11_pay_23
    · refine lv_iload_n X.1 X.2.1 dX11_pay_11 rfl (lv_at hl 2 rfl) ?_
      refine x_if_lt (tgt := 22) X hb dX11_pay_12 (by decide) (fun b_12 => ?_) (fun b_12 => ?_)
      · refine x_iconst X dX11_pay_22 ?_
        exact x_zret X hr hlk (by decide) hW (⟨by rw [if_neg (by omega)], fun h => absurd h (by omega), fun _ => rfl, fun _ _ => rfl⟩) dX11_pay_23
      · refine lv_iload_n X.1 X.2.1 dX11_pay_15 rfl (lv_at hl 2 rfl) ?_
        refine x_sipush X (by decide) dX11_pay_16 ?_
        refine x_icmp_le (tgt := 24) X hb ⟨by decide, by decide⟩ dX11_pay_19 (by decide) (fun b_19 => ?_) (fun b_19 => ?_)
        · refine lv_aload_n X.1 X.2.1 dX11_pay_24 rfl (lv_at hl 0 rfl) ?_
          refine x_get (C := RX11) (T := TX11) (N := 21) X hW (by omega) hO rfl lk_0 12 (by decide) lk_1 rfl dX11_pay_25 ?_
          refine lv_iload_n X.1 X.2.1 dX11_pay_28 rfl (lv_at hl 1 rfl) ?_
          refine lv_iload_n X.1 X.2.1 dX11_pay_29 rfl (lv_at hl 2 rfl) ?_
          refine x_seti (((b.toNat : Nat) : Int)) (by omega) ?_
          refine x_iast X hW (by omega) h11 z.toNat (by omega) (by omega) (by decide) dX11_pay_30 (fun g_30 H locs hg_30 hW => ?_)
          have hO : g_30 i = .inr (11, [.ref (A (i + 1)), .ref (A (i + 2)), .ref (A (i + 3)), .ref (A (i + 4)), .int (iI (q 0)), .ref (A (i + 5)), .ref (A (i + 6)), .ref (A (i + 7)), .ref (A (i + 8)), .int (iI (q 1)), .ref (A (i + 9)), .ref (A (i + 10)), .ref (A (i + 11)), .int (iI (q 2)), .ref (A (i + 12)), .ref (A (i + 13)), .int (iI (q 3)), .ref (A (i + 14)), .ref (A (i + 15)), .ref (A (i + 16)), .int (iI (q 4))]) := by rw [hg_30, va_up_ne _ _ (by omega)]; exact hO
          have h11 : g_30 (i + 11) = aI E 21 (upd f z.toNat (iI (((b.toNat : Nat) : Int)))) := by rw [hg_30]; exact va_up_self _ _ _
          refine x_iconst X dX11_pay_31 ?_
          exact x_zret X hr hlk (by decide) hW (⟨by rw [if_pos (by omega)], fun _ => ⟨_, h11, fun k hk => if ek : k = z.toNat then (by rw [ek, va_up_self, upd_s]; exact ⟨rfl, by omega⟩) else (by rw [va_up_ne _ _ ek, upd_n ek]; exact hv k hk)⟩, fun h => absurd (show (1 ≤ z ∧ z ≤ 20) ∧ 0 ≤ b ∧ b ≤ 1000 by omega) h, fun j hj => by rw [hg_30, va_up_ne _ _ hj]⟩) dX11_pay_32
        · refine x_iconst X dX11_pay_22 ?_
          exact x_zret X hr hlk (by decide) hW (⟨by rw [if_neg (by omega)], fun h => absurd h (by omega), fun _ => rfl, fun _ _ => rfl⟩) dX11_pay_23

def thR (rl : Nat → Int) : Nat → Nat
  | 0 => 0
  | k + 1 => thR rl k + if rl k = -1 then 0 else 1
theorem thR_le (rl : Nat → Int) : ∀ k, thR rl k ≤ k := by
  intro k
  induction k with
  | zero => exact Nat.le_refl _
  | succ k ih => show thR rl k + (if rl k = -1 then 0 else 1) ≤ k + 1; split <;> omega

set_option maxHeartbeats 4000000 in
set_option maxRecDepth 100000 in
/-- count -/
theorem c_X11_count (l : Launch) (E : wE) (A : Nat → Nat) (n sz : Nat) (g : Nat → va_E) (i : Nat) (q : Nat → Int) (rw rl : Nat → Int) (nm : Nat → Nat → Int) (z : Int) (hi : i + 16 < n) (hO : g i = mO A i q) (hR : RowsM E A g i rw rl nm) (hz : I32 z) : Met l yX11_count wsX11_count ({ frames := 1, cells := 0, slots := 0, locals := 30 } : Room) (va_Pc [.ref (A (i)), .int (iI (z))] (wPre E A n sz g)) (va_Qi (fun r g' => r = iI (if z = 0 then q 0 else if z = 1 then q 1 else if z = 2 then q 2 else if z = 3 then q 3 else if z = 4 then ((thR rl 10 : Nat) : Int) else -1) ∧ g' = g) (wAt E A n) (wF A n sz)) 0 0 (wF A n sz) := by
  refine x_met (cc := cX11_count) (maxL := 4) (ret := (some .int)) [.ref (A (i)), .int (iI (z))] (by decide) rfl (Nat.le_of_ble_eq_true rfl) ?_
  intro p e s m below meth c ls X hr hlk hnm hsz hW hl
  have hl : lv_has ls 4 [(0, .ref (A (i))), (1, .int (iI (z)))] := hl
  have lk_0 : ∀ w ∈ wsX110, w ∈ wsX11_count := by decide +kernel
  have lk_1 : Cond.fieldLink RX11 116 (TX11 4).1 (TX11 4).2.1 (TX11 4).2.2.1 ∈ wsX11_count := by decide +kernel
  have lk_2 : Cond.fieldLink RX11 127 (TX11 9).1 (TX11 9).2.1 (TX11 9).2.2.1 ∈ wsX11_count := by decide +kernel
  have lk_3 : Cond.fieldLink RX11 169 (TX11 13).1 (TX11 13).2.1 (TX11 13).2.2.1 ∈ wsX11_count := by decide +kernel
  have lk_4 : Cond.fieldLink RX11 172 (TX11 16).1 (TX11 16).2.1 (TX11 16).2.2.1 ∈ wsX11_count := by decide +kernel
  have lk_5 : Cond.fieldLink RX11 14 (TX11 1).1 (TX11 1).2.1 (TX11 1).2.2.1 ∈ wsX11_count := by decide +kernel
  have hO : g i = .inr (11, [.ref (A (i + 1)), .ref (A (i + 2)), .ref (A (i + 3)), .ref (A (i + 4)), .int (iI (q 0)), .ref (A (i + 5)), .ref (A (i + 6)), .ref (A (i + 7)), .ref (A (i + 8)), .int (iI (q 1)), .ref (A (i + 9)), .ref (A (i + 10)), .ref (A (i + 11)), .int (iI (q 2)), .ref (A (i + 12)), .ref (A (i + 13)), .int (iI (q 3)), .ref (A (i + 14)), .ref (A (i + 15)), .ref (A (i + 16)), .int (iI (q 4))]) := hO
  obtain ⟨fe, fw, fn, h2, h3, h4, hv⟩ := hR
  refine lv_iload_n X.1 X.2.1 dX11_count_0 rfl (lv_at hl 1 rfl) ?_
  by_cases e_1_0 : z = 0
  · have hx_1 : (iI (z)).toInt = 0 := by rw [iI_toInt hz]; exact e_1_0
    refine lv_tableIn (off := 35) (tgt := 36) X.1 X.2.1 dX11_count_1 (by rw [hx_1]; decide) (by rw [hx_1]; decide) (by rw [hx_1]; rfl) (by decide) ?_
    refine lv_aload_n X.1 X.2.1 dX11_count_36 rfl (lv_at hl 0 rfl) ?_
    refine x_get (C := RX11) (T := TX11) (N := 21) X hW (by omega) hO rfl lk_0 4 (by decide) lk_1 rfl dX11_count_37 ?_
    exact x_iret X hr hlk hW (⟨by rw [if_pos e_1_0], rfl⟩) dX11_count_40
  by_cases e_1_1 : z = 1
  · have hx_1 : (iI (z)).toInt = 1 := by rw [iI_toInt hz]; exact e_1_1
    refine lv_tableIn (off := 40) (tgt := 41) X.1 X.2.1 dX11_count_1 (by rw [hx_1]; decide) (by rw [hx_1]; decide) (by rw [hx_1]; rfl) (by decide) ?_
    refine lv_aload_n X.1 X.2.1 dX11_count_41 rfl (lv_at hl 0 rfl) ?_
    refine x_get (C := RX11) (T := TX11) (N := 21) X hW (by omega) hO rfl lk_0 9 (by decide) lk_2 rfl dX11_count_42 ?_
    exact x_iret X hr hlk hW (⟨by rw [if_neg e_1_0, if_pos e_1_1], rfl⟩) dX11_count_45
  by_cases e_1_2 : z = 2
  · have hx_1 : (iI (z)).toInt = 2 := by rw [iI_toInt hz]; exact e_1_2
    refine lv_tableIn (off := 45) (tgt := 46) X.1 X.2.1 dX11_count_1 (by rw [hx_1]; decide) (by rw [hx_1]; decide) (by rw [hx_1]; rfl) (by decide) ?_
    refine lv_aload_n X.1 X.2.1 dX11_count_46 rfl (lv_at hl 0 rfl) ?_
    refine x_get (C := RX11) (T := TX11) (N := 21) X hW (by omega) hO rfl lk_0 13 (by decide) lk_3 rfl dX11_count_47 ?_
    exact x_iret X hr hlk hW (⟨by rw [if_neg e_1_0, if_neg e_1_1, if_pos e_1_2], rfl⟩) dX11_count_50
  by_cases e_1_3 : z = 3
  · have hx_1 : (iI (z)).toInt = 3 := by rw [iI_toInt hz]; exact e_1_3
    refine lv_tableIn (off := 50) (tgt := 51) X.1 X.2.1 dX11_count_1 (by rw [hx_1]; decide) (by rw [hx_1]; decide) (by rw [hx_1]; rfl) (by decide) ?_
    refine lv_aload_n X.1 X.2.1 dX11_count_51 rfl (lv_at hl 0 rfl) ?_
    refine x_get (C := RX11) (T := TX11) (N := 21) X hW (by omega) hO rfl lk_0 16 (by decide) lk_4 rfl dX11_count_52 ?_
    exact x_iret X hr hlk hW (⟨by rw [if_neg e_1_0, if_neg e_1_1, if_neg e_1_2, if_pos e_1_3], rfl⟩) dX11_count_55
  by_cases e_1_4 : z = 4
  · have hx_1 : (iI (z)).toInt = 4 := by rw [iI_toInt hz]; exact e_1_4
    refine lv_tableIn (off := 55) (tgt := 56) X.1 X.2.1 dX11_count_1 (by rw [hx_1]; decide) (by rw [hx_1]; decide) (by rw [hx_1]; rfl) (by decide) ?_
    refine x_iconst X dX11_count_56 ?_
    refine lv_istore_n (lv' := [(2, .int (iI (0))), (0, .ref (A (i))), (1, .int (iI (z)))]) X.1 X.2.1 dX11_count_57 rfl hl (by decide) rfl (fun ls hl => ?_)
    refine x_iconst X dX11_count_58 ?_
    refine lv_istore_n (lv' := [(3, .int (iI (0))), (2, .int (iI (0))), (0, .ref (A (i))), (1, .int (iI (z)))]) X.1 X.2.1 dX11_count_59 rfl hl (by decide) rfl (fun ls hl => ?_)
    have loop_60 : ∀ (fuel : Nat) (t : Nat) (gw : Nat → va_E) (H : Heap) (locs : List Loc) (ls : Array Slot), (10 - t) < fuel → (t ≤ 10) → (gw = g) → wH E (wF A n sz) A n s gw H locs → lv_has ls 4 [(0, .ref (A (i))), (1, .int (iI (z))), (2, .int (iI (((thR rl t : Nat) : Int)))), (3, .int (iI ((t : Int))))] → W p l e ({ frames := 1, cells := 0, slots := 0, locals := 30 } : Room) s m [.ref (A (i)), .int (iI (z))].toArray below meth c H locs 0 0 (MQ below (va_Qi (fun r g' => r = iI (if z = 0 then q 0 else if z = 1 then q 1 else if z = 2 then q 2 else if z = 3 then q 3 else if z = 4 then ((thR rl 10 : Nat) : Int) else -1) ∧ g' = g) (wAt E A n) (wF A n sz)) [.ref (A (i)), .int (iI (z))].toArray s 0 0 (wF A n sz)) (F0 m 60 ls []) := by
      intro fuel
      induction fuel with
      | zero => intro t gw H locs ls hm; exact absurd hm (Nat.not_lt_zero _)
      | succ fuel ih_60 =>
        intro t gw H locs ls hm ht hgg hW hl
        have hO : gw i = .inr (11, [.ref (A (i + 1)), .ref (A (i + 2)), .ref (A (i + 3)), .ref (A (i + 4)), .int (iI (q 0)), .ref (A (i + 5)), .ref (A (i + 6)), .ref (A (i + 7)), .ref (A (i + 8)), .int (iI (q 1)), .ref (A (i + 9)), .ref (A (i + 10)), .ref (A (i + 11)), .int (iI (q 2)), .ref (A (i + 12)), .ref (A (i + 13)), .int (iI (q 3)), .ref (A (i + 14)), .ref (A (i + 15)), .ref (A (i + 16)), .int (iI (q 4))]) := by rw [hgg]; exact hO
        have h2 : gw (i + 2) = aI E 10 fe := by rw [hgg]; exact h2
        have htl := thR_le rl t
        refine lv_iload_n X.1 X.2.1 dX11_count_60 rfl (lv_at hl 3 rfl) ?_
        refine x_bipush X (by decide) dX11_count_61 ?_
        refine x_icmp_ge (tgt := 89) X ⟨by omega, by omega⟩ ⟨by decide, by decide⟩ dX11_count_63 (by decide) (fun b_63 => ?_) (fun b_63 => ?_)
        · refine lv_iload_n X.1 X.2.1 dX11_count_89 rfl (lv_at hl 2 rfl) ?_
          exact x_iret X hr hlk hW (⟨by rw [if_neg e_1_0, if_neg e_1_1, if_neg e_1_2, if_neg e_1_3, if_pos e_1_4, show t = 10 from by omega], hgg⟩) dX11_count_90
        · have hvt := hv t (by omega)
          refine lv_iload_n X.1 X.2.1 dX11_count_66 rfl (lv_at hl 2 rfl) ?_
          refine lv_aload_n X.1 X.2.1 dX11_count_67 rfl (lv_at hl 0 rfl) ?_
          refine x_get (C := RX11) (T := TX11) (N := 21) X hW (by omega) hO rfl lk_0 1 (by decide) lk_5 rfl dX11_count_68 ?_
          refine lv_iload_n X.1 X.2.1 dX11_count_71 rfl (lv_at hl 3 rfl) ?_
          refine x_iald X hW (by omega) h2 (v := iI (rl t + 1)) t (by omega) (by omega) (by decide) hvt.2.1 dX11_count_72 ?_
          refine x_if_ne (tgt := 80) X ⟨by omega, by omega⟩ dX11_count_73 (by decide) (fun b_73 => ?_) (fun b_73 => ?_)
          · refine x_iconst X dX11_count_80 ?_
            refine x_iadd X dX11_count_81 ?_
            refine x_seti (((thR rl (t + 1) : Nat) : Int)) (by show _ = ((thR rl t + (if rl t = -1 then 0 else 1) : Nat) : Int); first | (rw [if_pos (by omega)]; omega) | (rw [if_neg (by omega)]; omega)) ?_
            refine lv_istore_n (lv' := [(2, .int (iI (((thR rl (t + 1) : Nat) : Int)))), (0, .ref (A (i))), (1, .int (iI (z))), (3, .int (iI ((t : Int))))]) X.1 X.2.1 dX11_count_82 rfl hl (by decide) rfl (fun ls hl => ?_)
            refine lv_iinc (v := iI (((t + 1 : Nat) : Int))) (lv' := [(3, .int (iI (((t + 1 : Nat) : Int)))), (2, .int (iI (((thR rl (t + 1) : Nat) : Int)))), (0, .ref (A (i))), (1, .int (iI (z)))]) X.1 X.2.1 dX11_count_83 hl (k := 3) rfl (by rw [show (Int32.ofInt (1)) = iI (1) from rfl, iI_add]; rfl) (by decide) rfl (fun ls hl => ?_)
            refine lv_goto (tgt := 60) X.1 X.2.1 dX11_count_86 (by decide) ?_
            exact ih_60 (t + 1) gw _ _ _ (by omega) (by omega) hgg hW (lv_sub hl [2, 3, 1, 0] rfl)
          · refine x_iconst X dX11_count_76 ?_
            refine lv_goto (tgt := 81) X.1 X.2.1 dX11_count_77 (by decide) ?_
            refine x_iadd X dX11_count_81 ?_
            refine x_seti (((thR rl (t + 1) : Nat) : Int)) (by show _ = ((thR rl t + (if rl t = -1 then 0 else 1) : Nat) : Int); first | (rw [if_pos (by omega)]; omega) | (rw [if_neg (by omega)]; omega)) ?_
            refine lv_istore_n (lv' := [(2, .int (iI (((thR rl (t + 1) : Nat) : Int)))), (0, .ref (A (i))), (1, .int (iI (z))), (3, .int (iI ((t : Int))))]) X.1 X.2.1 dX11_count_82 rfl hl (by decide) rfl (fun ls hl => ?_)
            refine lv_iinc (v := iI (((t + 1 : Nat) : Int))) (lv' := [(3, .int (iI (((t + 1 : Nat) : Int)))), (2, .int (iI (((thR rl (t + 1) : Nat) : Int)))), (0, .ref (A (i))), (1, .int (iI (z)))]) X.1 X.2.1 dX11_count_83 hl (k := 3) rfl (by rw [show (Int32.ofInt (1)) = iI (1) from rfl, iI_add]; rfl) (by decide) rfl (fun ls hl => ?_)
            refine lv_goto (tgt := 60) X.1 X.2.1 dX11_count_86 (by decide) ?_
            exact ih_60 (t + 1) gw _ _ _ (by omega) (by omega) hgg hW (lv_sub hl [2, 3, 1, 0] rfl)
    exact loop_60 _ 0 g _ _ _ (Nat.lt_succ_self _) (by omega) rfl hW (lv_sub hl [2, 3, 1, 0] rfl)
  refine lv_tableOut (tgt := 91) X.1 X.2.1 dX11_count_1 (by rw [iI_toInt hz]; omega) (by decide) ?_
  refine x_iconst X dX11_count_91 ?_
  exact x_iret X hr hlk hW (⟨by rw [if_neg e_1_0, if_neg e_1_1, if_neg e_1_2, if_neg e_1_3, if_neg e_1_4], rfl⟩) dX11_count_92
