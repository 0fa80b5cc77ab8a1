def ComB (E : wE) (A : Nat → Nat) (g : Nat → va_E) (i : Nat) : Prop := g i = .inr (2, [.ref (A (i + 1)), .ref (A (i + 6)), .ref (A (i + 7)), .ref (A (i + 8)), .ref (A (i + 9)), .ref (A (i + 10)), .ref (A (i + 12)), .ref (A (i + 14)), .ref (A (i + 16)), .ref (A (i + 18))]) ∧ CrB E A g (i + 1) ∧ (g (i + 6) = aI E 10 (fun _ => 0) ∧ g (i + 7) = aI E 10 (fun _ => 0) ∧ g (i + 8) = aI E 10 (fun _ => 0)) ∧ (∃ f : Nat → Option Nat, g (i + 9) = aR E 3 11 f ∧ ∀ k, k < 11 → f k = some (A (i + 20 + 2 * k))) ∧ (NatX E A g (i + 10) ∧ NatX E A g (i + 12) ∧ NatX E A g (i + 14) ∧ NatX E A g (i + 16) ∧ NatX E A g (i + 18)) ∧ ∀ k, k < 11 → NatX E A g (i + 20 + 2 * k)
theorem ComB.mv {E : wE} {A A' : Nat → Nat} {g g' : Nat → va_E} {i : Nat}  (h : ComB E A g i ) (hA : ∀ k, i ≤ k → k ≤ i + 41 → A' k = A k) (hg : ∀ k, i ≤ k → k ≤ i + 41 → g' k = g k) : ComB E A' g' i  := by
  obtain ⟨a0, c1, ⟨f1, f2, f3⟩, ⟨f, f4, f5⟩, ⟨n1, n2, n3, n4, n5⟩, nk⟩ := h
  exact ⟨by rw [hg i (by omega) (by omega), a0, hA (i + 1) (by omega) (by omega), hA (i + 6) (by omega) (by omega), hA (i + 7) (by omega) (by omega), hA (i + 8) (by omega) (by omega), hA (i + 9) (by omega) (by omega), hA (i + 10) (by omega) (by omega), hA (i + 12) (by omega) (by omega), hA (i + 14) (by omega) (by omega), hA (i + 16) (by omega) (by omega), hA (i + 18) (by omega) (by omega)], c1.mv (fun k h1 h2 => hA k (by omega) (by omega)) (fun k h1 h2 => hg k (by omega) (by omega)), ⟨(hg _ (by omega) (by omega)).trans f1, (hg _ (by omega) (by omega)).trans f2, (hg _ (by omega) (by omega)).trans f3⟩, ⟨f, (hg _ (by omega) (by omega)).trans f4, fun k hk => by rw [f5 k hk, hA _ (by omega) (by omega)]⟩, ⟨n1.mv (fun k h1 h2 => hA k (by omega) (by omega)) (fun k h1 h2 => hg k (by omega) (by omega)), n2.mv (fun k h1 h2 => hA k (by omega) (by omega)) (fun k h1 h2 => hg k (by omega) (by omega)), n3.mv (fun k h1 h2 => hA k (by omega) (by omega)) (fun k h1 h2 => hg k (by omega) (by omega)), n4.mv (fun k h1 h2 => hA k (by omega) (by omega)) (fun k h1 h2 => hg k (by omega) (by omega)), n5.mv (fun k h1 h2 => hA k (by omega) (by omega)) (fun k h1 h2 => hg k (by omega) (by omega))⟩, fun k hk => (nk k hk).mv (fun k h1 h2 => hA k (by omega) (by omega)) (fun k h1 h2 => hg k (by omega) (by omega))⟩
theorem ComB.v {E : wE} {A : Nat → Nat} {g : Nat → va_E} {i : Nat} (h : ComB E A g i) (bc tb : Nat → Nat) : ComV E A g i 0 bc tb := by
  obtain ⟨a0, c1, ⟨f1, f2, f3⟩, hf, hn, nk⟩ := h
  exact ⟨a0, c1.v bc, ⟨_, f1, fun k hk => absurd hk (by omega)⟩, ⟨_, f2⟩, ⟨_, f3⟩, hf, hn, nk⟩
theorem RkV.mv {E : wE} {A A' : Nat → Nat} {g g' : Nat → va_E} {i : Nat} {py : Nat → Nat} (h : RkV E A g i py) (hA : ∀ k, i ≤ k → k ≤ i + 48 → A' k = A k) (hg : ∀ k, i ≤ k → k ≤ i + 48 → g' k = g k) : RkV E A' g' i py := by
  obtain ⟨fy, fp, ⟨a0, b, c⟩, d, e, n3, n5, nk⟩ := h
  exact ⟨fy, fp, ⟨by rw [hg i (by omega) (by omega), a0, hA (i + 1) (by omega) (by omega), hA (i + 2) (by omega) (by omega), hA (i + 3) (by omega) (by omega), hA (i + 5) (by omega) (by omega)], (hg _ (by omega) (by omega)).trans b, fun k hk => by rw [c k hk, hA _ (by omega) (by omega)]⟩, (hg _ (by omega) (by omega)).trans d, e, n3.mv (fun k h1 h2 => hA k (by omega) (by omega)) (fun k h1 h2 => hg k (by omega) (by omega)), n5.mv (fun k h1 h2 => hA k (by omega) (by omega)) (fun k h1 h2 => hg k (by omega) (by omega)), fun y hy => (nk y hy).mv (fun k h1 h2 => hA k (by omega) (by omega)) (fun k h1 h2 => hg k (by omega) (by omega))⟩
theorem PasV.mv {E : wE} {A A' : Nat → Nat} {g g' : Nat → va_E} {i : Nat} {WH : Nat} (h : PasV E A g i WH) (hA : ∀ k, i ≤ k → k ≤ i + 10 → A' k = A k) (hg : ∀ k, i ≤ k → k ≤ i + 10 → g' k = g k) : PasV E A' g' i WH := by
  obtain ⟨a0, n1, n3, n5, n7, n9⟩ := h
  exact ⟨by rw [hg i (by omega) (by omega), a0, hA (i + 1) (by omega) (by omega), hA (i + 3) (by omega) (by omega), hA (i + 5) (by omega) (by omega), hA (i + 7) (by omega) (by omega), hA (i + 9) (by omega) (by omega)], n1.mv (fun k h1 h2 => hA k (by omega) (by omega)) (fun k h1 h2 => hg k (by omega) (by omega)), n3.mv (fun k h1 h2 => hA k (by omega) (by omega)) (fun k h1 h2 => hg k (by omega) (by omega)), n5.mv (fun k h1 h2 => hA k (by omega) (by omega)) (fun k h1 h2 => hg k (by omega) (by omega)), n7.mv (fun k h1 h2 => hA k (by omega) (by omega)) (fun k h1 h2 => hg k (by omega) (by omega)), n9.mv (fun k h1 h2 => hA k (by omega) (by omega)) (fun k h1 h2 => hg k (by omega) (by omega))⟩
set_option maxHeartbeats 4000000 in
set_option maxRecDepth 100000 in
theorem c_X7_init (l : Launch) (E : wE) (A : Nat → Nat) (n sz : Nat) (g : Nat → va_E) (i : Nat) (hn : n = i + 1) (hg : g i = .inr (7, [.null, .null, .null, .null])) : Met l yX7_init wsX7_init ({ frames := 2, cells := 48, slots := 203, locals := 60 } : Room) (va_Pc [.ref (A i)] (wPreC E A n sz g)) (va_Qv (fun u : (Nat → Nat) × (Nat → va_E) => (∀ k, k < n → u.1 k = A k) ∧ (∀ k, k < i → u.2 k = g k) ∧ RkV E u.1 u.2 i (fun _ => 0)) (wAtC E (wF A n sz) (n + 48)) (wF A n sz)) 48 203 (wF A n sz) := by
  subst hn
  refine x_metC (cc := cX7_init) (maxL := 2) (ret := none) [.ref (A i)] (by decide) rfl (Nat.le_of_ble_eq_true rfl) ?_
  intro p_ e_ s_ m_ args below meth c_ ls X hr hlk hnm hsz hW hO hl
  obtain ⟨a0, ha⟩ : ∃ a0, a0 = A i := ⟨_, rfl⟩
  have hl : lv_has ls 2 [(0, .ref a0)] := by rw [ha]; exact hl
  generalize ([] : List Loc) = locs at hW ⊢
  have w_0 : Cond.methodLink RX7 3 objectInit ∈ wsX7_init := by decide +kernel
  have w_1 : Cond.instanceMethod objectInit ∈ wsX7_init := by decide +kernel
  have w_2 : Cond.code objectInit ⟨#[0xb1]⟩ 1 none ∈ wsX7_init := List.mem_of_getElem? (i := 3) rfl
  have w_3 : Cond.arrayClass .int ∈ wsX7_init := by decide +kernel
  have w_4 : ∀ w ∈ u_ws RX7 TX7 4, w ∈ wsX7_init := by decide +kernel
  have w_5 : Cond.fieldLink RX7 9 (TX7 0).1 (TX7 0).2.1 (TX7 0).2.2.1 ∈ wsX7_init := by decide +kernel
  have w_6 : Cond.classLink RX7 15 RX5 ∈ wsX7_init := by decide +kernel
  have w_7 : Cond.fieldLink RX7 17 (TX7 1).1 (TX7 1).2.1 (TX7 1).2.2.1 ∈ wsX7_init := by decide +kernel
  have w_8 : Cond.instantiable RX5 1 ∈ wsX7_init := by decide +kernel
  have w_9 : Cond.initialized RX5 ∈ wsX7_init := by decide +kernel
  have w_10 : ∀ w ∈ u_ws RX5 TX5 1, w ∈ wsX7_init := by decide +kernel
  have w_11 : Cond.instanceMethod yX5_init ∈ wsX7_init := by decide +kernel
  have w_12 : Cond.fieldLink RX7 22 (TX7 2).1 (TX7 2).2.1 (TX7 2).2.2.1 ∈ wsX7_init := by decide +kernel
  have w_13 : Cond.fieldLink RX7 26 (TX7 3).1 (TX7 3).2.1 (TX7 3).2.2.1 ∈ wsX7_init := by decide +kernel
  have hAA : ∀ k, k < i + 1 → A k = A k := fun _ _ => rfl
  have hGG : ∀ k, k < i → g k = g k := fun _ _ => rfl
  have ho : g i = .inr (7, [.null, .null, .null, .null]) := hg
  refine lv_aload_n X.1 X.2.1 dX7_init_0 rfl (lv_at hl 0 rfl) ?_
  refine x_objInit X w_0 w_1 w_2 hl.1 (Nat.le_of_ble_eq_true rfl) (Nat.le_of_ble_eq_true rfl) dX7_init_1 ?_
  refine lv_aload_n X.1 X.2.1 dX7_init_4 rfl (lv_at hl 0 rfl) ?_
  refine x_bipush X (by decide) dX7_init_5 ?_
  refine x_newI X hW w_3 21 (by decide +kernel) (by decide +kernel) (by decide) (Nat.le_of_ble_eq_true rfl) (Nat.le_of_ble_eq_true rfl) dX7_init_7 (fun q1 A7 g7 H hq1 hA7 hg7 f1 hW => ?_)
  have ha : a0 = A7 i := ha.trans (hA7 (i) (by omega)).symm
  have hAA : ∀ k, k < i + 1 → A7 k = A k := fun k hk => (hA7 k (by omega)).trans (hAA k hk)
  have hGG : ∀ k, k < i → g7 k = g k := fun k hk => (hg7 k (by omega)).trans (hGG k hk)
  have ho : g7 i = .inr (7, [.null, .null, .null, .null]) := (hg7 (i) (by omega)).trans ho
  have hW : wH E (wF A (i + 1) sz) A7 (i + 2) s_ g7 H locs := hW
  refine W.widen (k := 1) (n := 21) (Nat.le_of_ble_eq_true rfl) (Nat.le_of_ble_eq_true rfl) ?_
  refine xc_putF X hnm hW (v := .ref q1) ha (by omega) ho rfl w_4 tyX7 tyX7_ok nmX7 0 (by decide) w_5 rfl rfl rfl rfl (by show 0 < 4; decide) dX7_init_9 (fun g9 H locs ho hg9 hW => ?_)
  have ho : g9 i = .inr (7, [.ref q1, .null, .null, .null]) := ho
  have hGG : ∀ k, k < i → g9 k = g k := fun k hk => (hg9 k (by omega)).trans (hGG k hk)
  have f1 : g9 (i + 1) = aI E 21 (fun _ => 0) := (hg9 (i + 1) (by omega)).trans f1
  have hW : wH E (wF A (i + 1) sz) A7 (i + 2) s_ g9 H locs := hW
  refine lv_aload_n X.1 X.2.1 dX7_init_12 rfl (lv_at hl 0 rfl) ?_
  refine x_bipush X (by decide) dX7_init_13 ?_
  refine x_newR X hW (t := 3) rfl w_6 hO.2.1 21 (by decide +kernel) (by decide +kernel) (by decide) (Nat.le_of_ble_eq_true rfl) (Nat.le_of_ble_eq_true rfl) dX7_init_15 (fun q2 A15 g15 H hq2 hA15 hg15 f2 hW => ?_)
  have ha : a0 = A15 i := ha.trans (hA15 (i) (by omega)).symm
  have hAA : ∀ k, k < i + 1 → A15 k = A k := fun k hk => (hA15 k (by omega)).trans (hAA k hk)
  have hGG : ∀ k, k < i → g15 k = g k := fun k hk => (hg15 k (by omega)).trans (hGG k hk)
  have ho : g15 i = .inr (7, [.ref q1, .null, .null, .null]) := (hg15 (i) (by omega)).trans ho
  have hq1 : q1 = A15 (i + 1) := hq1.trans (hA15 (i + 1) (by omega)).symm
  have f1 : g15 (i + 1) = aI E 21 (fun _ => 0) := (hg15 (i + 1) (by omega)).trans f1
  have hW : wH E (wF A (i + 1) sz) A15 (i + 3) s_ g15 H locs := hW
  refine W.widen (k := 2) (n := 42) (Nat.le_of_ble_eq_true rfl) (Nat.le_of_ble_eq_true rfl) ?_
  refine xc_putF X hnm hW (v := .ref q2) ha (by omega) ho rfl w_4 tyX7 tyX7_ok nmX7 1 (by decide) w_7 rfl rfl rfl rfl (by show 1 < 4; decide) dX7_init_18 (fun g18 H locs ho hg18 hW => ?_)
  have ho : g18 i = .inr (7, [.ref q1, .ref q2, .null, .null]) := ho
  have hGG : ∀ k, k < i → g18 k = g k := fun k hk => (hg18 k (by omega)).trans (hGG k hk)
  have f1 : g18 (i + 1) = aI E 21 (fun _ => 0) := (hg18 (i + 1) (by omega)).trans f1
  have f2 : g18 (i + 2) = aR E 3 21 (fun _ => none) := (hg18 (i + 2) (by omega)).trans f2
  have hW : wH E (wF A (i + 1) sz) A15 (i + 3) s_ g18 H locs := hW
  refine lv_aload_n X.1 X.2.1 dX7_init_21 rfl (lv_at hl 0 rfl) ?_
  refine x_new X hW (ci := 5) (fs := [.null]) rfl w_10 tyX5 tyX5_ok w_6 w_8 w_9 dfX5 (Nat.le_of_ble_eq_true rfl) (Nat.le_of_ble_eq_true rfl) dX7_init_22 (fun q3 A22 g22 H hq3 hA22 hg22 f3 hW => ?_)
  have ha : a0 = A22 i := ha.trans (hA22 (i) (by omega)).symm
  have hAA : ∀ k, k < i + 1 → A22 k = A k := fun k hk => (hA22 k (by omega)).trans (hAA k hk)
  have hGG : ∀ k, k < i → g22 k = g k := fun k hk => (hg22 k (by omega)).trans (hGG k hk)
  have ho : g22 i = .inr (7, [.ref q1, .ref q2, .null, .null]) := (hg22 (i) (by omega)).trans ho
  have hq1 : q1 = A22 (i + 1) := hq1.trans (hA22 (i + 1) (by omega)).symm
  have f1 : g22 (i + 1) = aI E 21 (fun _ => 0) := (hg22 (i + 1) (by omega)).trans f1
  have hq2 : q2 = A22 (i + 2) := hq2.trans (hA22 (i + 2) (by omega)).symm
  have f2 : g22 (i + 2) = aR E 3 21 (fun _ => none) := (hg22 (i + 2) (by omega)).trans f2
  have hW : wH E (wF A (i + 1) sz) A22 (i + 4) s_ g22 H locs := hW
  refine W.widen (k := 3) (n := 43) (Nat.le_of_ble_eq_true rfl) (Nat.le_of_ble_eq_true rfl) ?_
  refine lv_dup X.1 X.2.1 dX7_init_25 rfl ?_
  refine x_cIN X hW hO hq3 (c_X5_init l E A22 (i + 4) H.size g22 (i + 3) rfl f3) gX7_init_X5_init_n21 rfl rfl rfl (by decide) w_9 w_11 rfl (by decide +kernel) ⟨(Nat.le_of_ble_eq_true rfl), (Nat.le_of_ble_eq_true rfl)⟩ hl.1 (Nat.le_of_ble_eq_true rfl) dX7_init_26 ⟨(Nat.le_of_ble_eq_true rfl), (Nat.le_of_ble_eq_true rfl)⟩ (fun A26 g26 H locs hp26 hW => ?_)
  obtain ⟨hA26, hg26, v3⟩ := hp26
  have ha : a0 = A26 i := ha.trans (hA26 (i) (by omega)).symm
  have hAA : ∀ k, k < i + 1 → A26 k = A k := fun k hk => (hA26 k (by omega)).trans (hAA k hk)
  have hGG : ∀ k, k < i → g26 k = g k := fun k hk => (hg26 k (by omega)).trans (hGG k hk)
  have ho : g26 i = .inr (7, [.ref q1, .ref q2, .null, .null]) := (hg26 (i) (by omega)).trans ho
  have hq1 : q1 = A26 (i + 1) := hq1.trans (hA26 (i + 1) (by omega)).symm
  have f1 : g26 (i + 1) = aI E 21 (fun _ => 0) := (hg26 (i + 1) (by omega)).trans f1
  have hq2 : q2 = A26 (i + 2) := hq2.trans (hA26 (i + 2) (by omega)).symm
  have f2 : g26 (i + 2) = aR E 3 21 (fun _ => none) := (hg26 (i + 2) (by omega)).trans f2
  have hq3 : q3 = A26 (i + 3) := hq3.trans (hA26 (i + 3) (by omega)).symm
  have hW : wH E (wF A (i + 1) sz) A26 (i + 5) s_ g26 H locs := hW
  refine W.widen (k := 4) (n := 49) (Nat.le_of_ble_eq_true rfl) (Nat.le_of_ble_eq_true rfl) ?_
  refine xc_putF X hnm hW (v := .ref q3) ha (by omega) ho rfl w_4 tyX7 tyX7_ok nmX7 2 (by decide) w_12 rfl rfl rfl rfl (by show 2 < 4; decide) dX7_init_29 (fun g29 H locs ho hg29 hW => ?_)
  have ho : g29 i = .inr (7, [.ref q1, .ref q2, .ref q3, .null]) := ho
  have hGG : ∀ k, k < i → g29 k = g k := fun k hk => (hg29 k (by omega)).trans (hGG k hk)
  have f1 : g29 (i + 1) = aI E 21 (fun _ => 0) := (hg29 (i + 1) (by omega)).trans f1
  have f2 : g29 (i + 2) = aR E 3 21 (fun _ => none) := (hg29 (i + 2) (by omega)).trans f2
  have v3 : NatV E A26 g29 (i + 3) 0 := v3.mv (fun _ _ _ => rfl) (fun k h1 h2 => hg29 k (by omega))
  have hW : wH E (wF A (i + 1) sz) A26 (i + 5) s_ g29 H locs := hW
  refine lv_aload_n X.1 X.2.1 dX7_init_32 rfl (lv_at hl 0 rfl) ?_
  refine x_new X hW (ci := 5) (fs := [.null]) rfl w_10 tyX5 tyX5_ok w_6 w_8 w_9 dfX5 (Nat.le_of_ble_eq_true rfl) (Nat.le_of_ble_eq_true rfl) dX7_init_33 (fun q5 A33 g33 H hq5 hA33 hg33 f5 hW => ?_)
  have ha : a0 = A33 i := ha.trans (hA33 (i) (by omega)).symm
  have hAA : ∀ k, k < i + 1 → A33 k = A k := fun k hk => (hA33 k (by omega)).trans (hAA k hk)
  have hGG : ∀ k, k < i → g33 k = g k := fun k hk => (hg33 k (by omega)).trans (hGG k hk)
  have ho : g33 i = .inr (7, [.ref q1, .ref q2, .ref q3, .null]) := (hg33 (i) (by omega)).trans ho
  have hq1 : q1 = A33 (i + 1) := hq1.trans (hA33 (i + 1) (by omega)).symm
  have f1 : g33 (i + 1) = aI E 21 (fun _ => 0) := (hg33 (i + 1) (by omega)).trans f1
  have hq2 : q2 = A33 (i + 2) := hq2.trans (hA33 (i + 2) (by omega)).symm
  have f2 : g33 (i + 2) = aR E 3 21 (fun _ => none) := (hg33 (i + 2) (by omega)).trans f2
  have hq3 : q3 = A33 (i + 3) := hq3.trans (hA33 (i + 3) (by omega)).symm
  have v3 : NatV E A33 g33 (i + 3) 0 := v3.mv (fun k h1 h2 => hA33 k (by omega)) (fun k h1 h2 => hg33 k (by omega))
  have hW : wH E (wF A (i + 1) sz) A33 (i + 6) s_ g33 H locs := hW
  refine W.widen (k := 5) (n := 50) (Nat.le_of_ble_eq_true rfl) (Nat.le_of_ble_eq_true rfl) ?_
  refine lv_dup X.1 X.2.1 dX7_init_36 rfl ?_
  refine x_cIN X hW hO hq5 (c_X5_init l E A33 (i + 6) H.size g33 (i + 5) rfl f5) gX7_init_X5_init_n21 rfl rfl rfl (by decide) w_9 w_11 rfl (by decide +kernel) ⟨(Nat.le_of_ble_eq_true rfl), (Nat.le_of_ble_eq_true rfl)⟩ hl.1 (Nat.le_of_ble_eq_true rfl) dX7_init_37 ⟨(Nat.le_of_ble_eq_true rfl), (Nat.le_of_ble_eq_true rfl)⟩ (fun A37 g37 H locs hp37 hW => ?_)
  obtain ⟨hA37, hg37, v5⟩ := hp37
  have ha : a0 = A37 i := ha.trans (hA37 (i) (by omega)).symm
  have hAA : ∀ k, k < i + 1 → A37 k = A k := fun k hk => (hA37 k (by omega)).trans (hAA k hk)
  have hGG : ∀ k, k < i → g37 k = g k := fun k hk => (hg37 k (by omega)).trans (hGG k hk)
  have ho : g37 i = .inr (7, [.ref q1, .ref q2, .ref q3, .null]) := (hg37 (i) (by omega)).trans ho
  have hq1 : q1 = A37 (i + 1) := hq1.trans (hA37 (i + 1) (by omega)).symm
  have f1 : g37 (i + 1) = aI E 21 (fun _ => 0) := (hg37 (i + 1) (by omega)).trans f1
  have hq2 : q2 = A37 (i + 2) := hq2.trans (hA37 (i + 2) (by omega)).symm
  have f2 : g37 (i + 2) = aR E 3 21 (fun _ => none) := (hg37 (i + 2) (by omega)).trans f2
  have hq3 : q3 = A37 (i + 3) := hq3.trans (hA37 (i + 3) (by omega)).symm
  have v3 : NatV E A37 g37 (i + 3) 0 := v3.mv (fun k h1 h2 => hA37 k (by omega)) (fun k h1 h2 => hg37 k (by omega))
  have hq5 : q5 = A37 (i + 5) := hq5.trans (hA37 (i + 5) (by omega)).symm
  have hW : wH E (wF A (i + 1) sz) A37 (i + 7) s_ g37 H locs := hW
  refine W.widen (k := 6) (n := 56) (Nat.le_of_ble_eq_true rfl) (Nat.le_of_ble_eq_true rfl) ?_
  refine xc_putF X hnm hW (v := .ref q5) ha (by omega) ho rfl w_4 tyX7 tyX7_ok nmX7 3 (by decide) w_13 rfl rfl rfl rfl (by show 3 < 4; decide) dX7_init_40 (fun g40 H locs ho hg40 hW => ?_)
  have ho : g40 i = .inr (7, [.ref q1, .ref q2, .ref q3, .ref q5]) := ho
  have hGG : ∀ k, k < i → g40 k = g k := fun k hk => (hg40 k (by omega)).trans (hGG k hk)
  have f1 : g40 (i + 1) = aI E 21 (fun _ => 0) := (hg40 (i + 1) (by omega)).trans f1
  have f2 : g40 (i + 2) = aR E 3 21 (fun _ => none) := (hg40 (i + 2) (by omega)).trans f2
  have v3 : NatV E A37 g40 (i + 3) 0 := v3.mv (fun _ _ _ => rfl) (fun k h1 h2 => hg40 k (by omega))
  have v5 : NatV E A37 g40 (i + 5) 0 := v5.mv (fun _ _ _ => rfl) (fun k h1 h2 => hg40 k (by omega))
  have hW : wH E (wF A (i + 1) sz) A37 (i + 7) s_ g40 H locs := hW
  refine x_iconst X dX7_init_43 ?_
  refine lv_istore_n (lv' := [(1, .int (iI (((0 : Nat) : Int)))), (0, .ref a0)]) X.1 X.2.1 dX7_init_44 rfl hl (by decide) rfl (fun ls hl => ?_)
  have loopa : ∀ Q : State → Prop, (∀ (A2 : Nat → Nat) (g2 : Nat → va_E) (H : Heap) (locs : List Loc) (ls : Array Slot), (∀ k, k < i + 7 → A2 k = A37 k) → (∀ k, k < i + 7 → k ≠ i + 2 → g2 k = g40 k) → (∃ f : Nat → Option Nat, g2 (i + 2) = aR E 3 21 f ∧ ∀ k, k < 21 → f k = some (A2 (i + 7 + 2 * k))) → (∀ k, k < 21 → NatV E A2 g2 (i + 7 + 2 * k) 0) → wH E (wF A (i + 1) sz) A2 (i + 7 + 2 * 21) s_ g2 H locs → lv_has ls 2 [(1, .int (iI (((21 : Nat) : Int)))), (0, .ref a0)] → W p_ l e_ ({ frames := 2, cells := 48, slots := 203, locals := 60 } : Room) s_ m_ args below meth c_ H locs (48) (203) Q (F0 m_ 73 ls [])) → ∀ (d j : Nat) (A1 : Nat → Nat) (g1 : Nat → va_E) (H : Heap) (locs : List Loc) (ls : Array Slot), j ≤ 21 → 21 + 1 ≤ j + d → (∀ k, k < i + 7 → A1 k = A37 k) → (∀ k, k < i + 7 → k ≠ i + 2 → g1 k = g40 k) → (∃ f : Nat → Option Nat, g1 (i + 2) = aR E 3 21 f ∧ ∀ k, k < j → f k = some (A1 (i + 7 + 2 * k))) → (∀ k, k < j → NatV E A1 g1 (i + 7 + 2 * k) 0) → wH E (wF A (i + 1) sz) A1 (i + 7 + 2 * j) s_ g1 H locs → lv_has ls 2 [(1, .int (iI (((j : Nat) : Int)))), (0, .ref a0)] → W p_ l e_ ({ frames := 2, cells := 48, slots := 203, locals := 60 } : Room) s_ m_ args below meth c_ H locs (6 + 2 * j) (56 + 7 * j) Q (F0 m_ 45 ls []) := by
    intro Q kont d
    induction d with
    | zero => intro j A1 g1 H locs ls h1 h2; exact absurd h2 (by omega)
    | succ d ih =>
      intro j A1 g1 H locs ls h1 h2 hA1 hg1 harr hvs hW hl
      obtain ⟨f, hf, hfk⟩ := harr
      have ha1 : a0 = A1 i := ha.trans (hA1 i (by omega)).symm
      have ho1 : g1 i = .inr (7, [.ref q1, .ref q2, .ref q3, .ref q5]) := (hg1 i (by omega) (by omega)).trans ho
      have hq1 : q2 = A1 (i + 2) := hq2.trans (hA1 (i + 2) (by omega)).symm
      refine lv_iload_n X.1 X.2.1 dX7_init_45 rfl (lv_at hl 0 rfl) ?_
      refine lv_aload_n X.1 X.2.1 dX7_init_46 rfl (lv_at hl 1 rfl) ?_
      refine xc_get X hW ha1 (by omega) ho1 rfl w_4 1 (by decide) w_7 rfl dX7_init_47 ?_
      rw [hq1]
      refine x_alen X hW (by omega) hf rfl dX7_init_50 ?_
      refine x_icmp_ge (tgt := 73) X (by unfold I32; omega) (by unfold I32; omega) dX7_init_51 (by decide) (fun b_ => ?_) (fun b_ => ?_)
      · obtain rfl : j = 21 := by omega
        exact kont A1 g1 H locs ls hA1 hg1 ⟨f, hf, hfk⟩ hvs hW hl
      · have hj : j < 21 := by omega
        refine lv_aload_n X.1 X.2.1 dX7_init_54 rfl (lv_at hl 1 rfl) ?_
        refine xc_get X hW ha1 (by omega) ho1 rfl w_4 1 (by decide) w_7 rfl dX7_init_55 ?_
        refine lv_iload_n X.1 X.2.1 dX7_init_58 rfl (lv_at hl 0 rfl) ?_
        refine x_new X hW (ci := 5) (fs := [.null]) rfl w_10 tyX5 tyX5_ok w_6 w_8 w_9 dfX5 (by show 6 + 2 * j + 1 ≤ 48; omega) (by show 56 + 7 * j + 1 ≤ 203; omega) dX7_init_59 (fun qn A3 g3 H hqn hA3 hg3 fn hW => ?_)
        refine lv_dup X.1 X.2.1 dX7_init_62 rfl ?_
        refine x_cIN X hW hO hqn (c_X5_init l E A3 (i + 7 + 2 * j + 1) H.size g3 (i + 7 + 2 * j) rfl fn) gX7_init_X5_init_n21 rfl rfl rfl (by decide) w_9 w_11 rfl (by decide +kernel) ⟨(Nat.le_of_ble_eq_true rfl), (Nat.le_of_ble_eq_true rfl)⟩ hl.1 (Nat.le_of_ble_eq_true rfl) dX7_init_63 ⟨by show 6 + 2 * j + 1 + 1 ≤ 48; omega, by show 56 + 7 * j + 1 + 6 ≤ 203; omega⟩ (fun A4 g4 H locs hp4 hW => ?_)
        obtain ⟨hA4, hg4, v4⟩ := hp4
        have hqn4 : qn = A4 (i + 7 + 2 * j) := hqn.trans (hA4 _ (by omega)).symm
        have hA5 : ∀ k, k < i + 7 + 2 * j → A4 k = A1 k := fun k hk => (hA4 k (by omega)).trans (hA3 k hk)
        have hg5 : ∀ k, k < i + 7 + 2 * j → g4 k = g1 k := fun k hk => (hg4 k hk).trans (hg3 k hk)
        have hq4 : q2 = A4 (i + 2) := hq1.trans (hA5 _ (by omega)).symm
        have hf4 : g4 (i + 2) = aR E 3 21 f := (hg5 _ (by omega)).trans hf
        rw [hqn4, hq4]
        refine x_aast X hW (r := (RX5, TX5, 1)) (by omega) hf4 rfl (by omega) v4.2.1 rfl j rfl hj (by omega) dX7_init_66 (fun g5 H locs e5 hW => ?_)
        refine lv_iinc (v := iI ((((j + 1 : Nat)) : Int))) (lv' := [(1, .int (iI ((((j + 1 : Nat)) : Int)))), (0, .ref a0)]) X.1 X.2.1 dX7_init_67 hl (k := 0) rfl (by rw [show (Int32.ofInt (1)) = iI (1) from rfl, iI_add]; first | rfl | (congr 1; omega)) (by decide) rfl (fun ls hl => ?_)
        refine lv_goto (tgt := 45) X.1 X.2.1 dX7_init_70 (by decide) ?_
        refine W.widen (k := 6 + 2 * (j + 1)) (n := 56 + 7 * (j + 1)) (by omega) (by omega) ?_
        have hne : ∀ k, k ≠ i + 2 → g5 k = g4 k := fun k hk => by rw [e5]; exact va_up_ne _ _ hk
        refine ih (j + 1) A4 g5 H locs ls (by omega) (by omega) (fun k hk => (hA5 k (by omega)).trans (hA1 k hk)) (fun k hk h3 => (hne k h3).trans ((hg5 k (by omega)).trans (hg1 k hk h3))) ⟨_, by rw [e5]; exact va_up_self _ _ _, fun k hk => ?_⟩ (fun k hk => ?_) (by rw [show i + 7 + 2 * (j + 1) = i + 7 + 2 * j + 1 + 1 from by omega]; exact hW) hl
        · by_cases hkj : k = j
          · rw [hkj]; exact va_up_self _ _ _
          · rw [va_up_ne _ _ hkj, hfk k (by omega), hA5 _ (by omega)]
        · by_cases hkj : k = j
          · rw [hkj]; exact v4.mv (fun _ _ _ => rfl) (fun k h1 h2 => hne k (by omega))
          · exact (hvs k (by omega)).mv (fun k h1 h2 => hA5 k (by omega)) (fun k h1 h2 => (hne k (by omega)).trans (hg5 k (by omega)))
  refine loopa _ (fun Aea gea H locs ls hAea hgea hara hvsa hW hl => ?_) (21 + 1) 0 _ _ H locs ls (by omega) (by omega) (fun _ _ => rfl) (fun _ _ _ => rfl) ⟨_, f2, fun k hk => absurd hk (by omega)⟩ (fun k hk => absurd hk (by omega)) hW hl
  have ha : a0 = Aea i := ha.trans (hAea (i) (by omega)).symm
  have hAA : ∀ k, k < i + 1 → Aea k = A k := fun k hk => (hAea k (by omega)).trans (hAA k hk)
  have hGG : ∀ k, k < i → gea k = g k := fun k hk => (hgea k (by omega) (by omega)).trans (hGG k hk)
  have ho : gea i = .inr (7, [.ref q1, .ref q2, .ref q3, .ref q5]) := (hgea (i) (by omega) (by omega)).trans ho
  have hq1 : q1 = Aea (i + 1) := hq1.trans (hAea (i + 1) (by omega)).symm
  have f1 : gea (i + 1) = aI E 21 (fun _ => 0) := (hgea (i + 1) (by omega) (by omega)).trans f1
  have hq2 : q2 = Aea (i + 2) := hq2.trans (hAea (i + 2) (by omega)).symm
  have hq3 : q3 = Aea (i + 3) := hq3.trans (hAea (i + 3) (by omega)).symm
  have v3 : NatV E Aea gea (i + 3) 0 := v3.mv (fun k h1 h2 => hAea k (by omega)) (fun k h1 h2 => hgea k (by omega) (by omega))
  have hq5 : q5 = Aea (i + 5) := hq5.trans (hAea (i + 5) (by omega)).symm
  have v5 : NatV E Aea gea (i + 5) 0 := v5.mv (fun k h1 h2 => hAea k (by omega)) (fun k h1 h2 => hgea k (by omega) (by omega))
  have hW : wH E (wF A (i + 1) sz) Aea (i + 49) s_ gea H locs := hW
  refine x_vretC X hr hlk hW (Nat.le_of_ble_eq_true rfl) (Nat.le_of_ble_eq_true rfl) ⟨hAA, hGG, ?_⟩ dX7_init_73
  rw [hq1, hq2, hq3, hq5] at ho
  obtain ⟨fy, h2, h3⟩ := hara
  exact ⟨fy, _, ⟨ho, h2, h3⟩, f1, fun k hk => ⟨rfl, Nat.zero_le _⟩, v3.any, v5.any, fun y hy => (hvsa y hy).any⟩
set_option maxHeartbeats 4000000 in
set_option maxRecDepth 100000 in
theorem c_X2_init (l : Launch) (E : wE) (A : Nat → Nat) (n sz : Nat) (g : Nat → va_E) (i : Nat) (hn : n = i + 1) (hg : g i = .inr (2, [.null, .null, .null, .null, .null, .null, .null, .null, .null, .null])) : Met l yX2_init wsX2_init ({ frames := 3, cells := 41, slots := 186, locals := 100 } : Room) (va_Pc [.ref (A i)] (wPreC E A n sz g)) (va_Qv (fun u : (Nat → Nat) × (Nat → va_E) => (∀ k, k < n → u.1 k = A k) ∧ (∀ k, k < i → u.2 k = g k) ∧ ComB E u.1 u.2 i) (wAtC E (wF A n sz) (n + 41)) (wF A n sz)) 41 186 (wF A n sz) := by
  subst hn
  refine x_metC (cc := cX2_init) (maxL := 2) (ret := none) [.ref (A i)] (by decide) rfl (Nat.le_of_ble_eq_true rfl) ?_
  intro p_ e_ s_ m_ args below meth c_ ls X hr hlk hnm hsz hW hO hl
  obtain ⟨a0, ha⟩ : ∃ a0, a0 = A i := ⟨_, rfl⟩
  have hl : lv_has ls 2 [(0, .ref a0)] := by rw [ha]; exact hl
  generalize ([] : List Loc) = locs at hW ⊢
  have w_0 : Cond.methodLink RX2 3 objectInit ∈ wsX2_init := by decide +kernel
  have w_1 : Cond.instanceMethod objectInit ∈ wsX2_init := by decide +kernel
  have w_2 : Cond.code objectInit ⟨#[0xb1]⟩ 1 none ∈ wsX2_init := List.mem_of_getElem? (i := 3) rfl
  have w_3 : Cond.classLink RX2 9 RX3 ∈ wsX2_init := by decide +kernel
  have w_4 : Cond.instantiable RX3 3 ∈ wsX2_init := by decide +kernel
  have w_5 : Cond.initialized RX3 ∈ wsX2_init := by decide +kernel
  have w_6 : ∀ w ∈ u_ws RX3 TX3 3, w ∈ wsX2_init := by decide +kernel
  have w_7 : Cond.methodLink RX2 11 yX3_init ∈ wsX2_init := by decide +kernel
  have w_8 : Cond.instanceMethod yX3_init ∈ wsX2_init := by decide +kernel
  have w_9 : ∀ w ∈ u_ws RX2 TX2 10, w ∈ wsX2_init := by decide +kernel
  have w_10 : Cond.fieldLink RX2 12 (TX2 0).1 (TX2 0).2.1 (TX2 0).2.2.1 ∈ wsX2_init := by decide +kernel
  have w_11 : Cond.arrayClass .int ∈ wsX2_init := by decide +kernel
  have w_12 : Cond.fieldLink RX2 18 (TX2 1).1 (TX2 1).2.1 (TX2 1).2.2.1 ∈ wsX2_init := by decide +kernel
  have w_13 : Cond.fieldLink RX2 22 (TX2 2).1 (TX2 2).2.1 (TX2 2).2.2.1 ∈ wsX2_init := by decide +kernel
  have w_14 : Cond.fieldLink RX2 25 (TX2 3).1 (TX2 3).2.1 (TX2 3).2.2.1 ∈ wsX2_init := by decide +kernel
  have w_15 : Cond.classLink RX2 28 RX5 ∈ wsX2_init := by decide +kernel
  have w_16 : Cond.fieldLink RX2 30 (TX2 4).1 (TX2 4).2.1 (TX2 4).2.2.1 ∈ wsX2_init := by decide +kernel
  have w_17 : Cond.instantiable RX5 1 ∈ wsX2_init := by decide +kernel
  have w_18 : Cond.initialized RX5 ∈ wsX2_init := by decide +kernel
  have w_19 : ∀ w ∈ u_ws RX5 TX5 1, w ∈ wsX2_init := by decide +kernel
  have w_20 : Cond.instanceMethod yX5_init ∈ wsX2_init := by decide +kernel
  have w_21 : Cond.fieldLink RX2 35 (TX2 5).1 (TX2 5).2.1 (TX2 5).2.2.1 ∈ wsX2_init := by decide +kernel
  have w_22 : Cond.fieldLink RX2 39 (TX2 6).1 (TX2 6).2.1 (TX2 6).2.2.1 ∈ wsX2_init := by decide +kernel
  have w_23 : Cond.fieldLink RX2 42 (TX2 7).1 (TX2 7).2.1 (TX2 7).2.2.1 ∈ wsX2_init := by decide +kernel
  have w_24 : Cond.fieldLink RX2 45 (TX2 8).1 (TX2 8).2.1 (TX2 8).2.2.1 ∈ wsX2_init := by decide +kernel
  have w_25 : Cond.fieldLink RX2 48 (TX2 9).1 (TX2 9).2.1 (TX2 9).2.2.1 ∈ wsX2_init := by decide +kernel
  have hAA : ∀ k, k < i + 1 → A k = A k := fun _ _ => rfl
  have hGG : ∀ k, k < i → g k = g k := fun _ _ => rfl
  have ho : g i = .inr (2, [.null, .null, .null, .null, .null, .null, .null, .null, .null, .null]) := hg
  refine lv_aload_n X.1 X.2.1 dX2_init_0 rfl (lv_at hl 0 rfl) ?_
  refine x_objInit X w_0 w_1 w_2 hl.1 (Nat.le_of_ble_eq_true rfl) (Nat.le_of_ble_eq_true rfl) dX2_init_1 ?_
  refine lv_aload_n X.1 X.2.1 dX2_init_4 rfl (lv_at hl 0 rfl) ?_
  refine x_new X hW (ci := 3) (fs := [.null, .null, .int 0]) rfl w_6 tyX3 tyX3_ok w_3 w_4 w_5 dfX3 (Nat.le_of_ble_eq_true rfl) (Nat.le_of_ble_eq_true rfl) dX2_init_5 (fun q1 A5 g5 H hq1 hA5 hg5 f1 hW => ?_)
  have ha : a0 = A5 i := ha.trans (hA5 (i) (by omega)).symm
  have hAA : ∀ k, k < i + 1 → A5 k = A k := fun k hk => (hA5 k (by omega)).trans (hAA k hk)
  have hGG : ∀ k, k < i → g5 k = g k := fun k hk => (hg5 k (by omega)).trans (hGG k hk)
  have ho : g5 i = .inr (2, [.null, .null, .null, .null, .null, .null, .null, .null, .null, .null]) := (hg5 (i) (by omega)).trans ho
  have hW : wH E (wF A (i + 1) sz) A5 (i + 2) s_ g5 H locs := hW
  refine W.widen (k := 1) (n := 3) (Nat.le_of_ble_eq_true rfl) (Nat.le_of_ble_eq_true rfl) ?_
  refine lv_dup X.1 X.2.1 dX2_init_8 rfl ?_
  refine x_cI X hW hO hq1 (c_X3_init l E A5 (i + 2) H.size g5 (i + 1) rfl f1) gX2_init_X3_init rfl rfl rfl w_5 w_7 w_8 rfl (by decide +kernel) ⟨(Nat.le_of_ble_eq_true rfl), (Nat.le_of_ble_eq_true rfl)⟩ hl.1 (Nat.le_of_ble_eq_true rfl) dX2_init_9 ⟨(Nat.le_of_ble_eq_true rfl), (Nat.le_of_ble_eq_true rfl)⟩ (fun A9 g9 H locs hp9 hW => ?_)
  obtain ⟨hA9, hg9, v1⟩ := hp9
  have ha : a0 = A9 i := ha.trans (hA9 (i) (by omega)).symm
  have hAA : ∀ k, k < i + 1 → A9 k = A k := fun k hk => (hA9 k (by omega)).trans (hAA k hk)
  have hGG : ∀ k, k < i → g9 k = g k := fun k hk => (hg9 k (by omega)).trans (hGG k hk)
  have ho : g9 i = .inr (2, [.null, .null, .null, .null, .null, .null, .null, .null, .null, .null]) := (hg9 (i) (by omega)).trans ho
  have hq1 : q1 = A9 (i + 1) := hq1.trans (hA9 (i + 1) (by omega)).symm
  have hW : wH E (wF A (i + 1) sz) A9 (i + 6) s_ g9 H locs := hW
  refine W.widen (k := 5) (n := 33) (Nat.le_of_ble_eq_true rfl) (Nat.le_of_ble_eq_true rfl) ?_
  refine xc_putF X hnm hW (v := .ref q1) ha (by omega) ho rfl w_9 tyX2 tyX2_ok nmX2 0 (by decide) w_10 rfl rfl rfl rfl (by show 0 < 10; decide) dX2_init_12 (fun g12 H locs ho hg12 hW => ?_)
  have ho : g12 i = .inr (2, [.ref q1, .null, .null, .null, .null, .null, .null, .null, .null, .null]) := ho
  have hGG : ∀ k, k < i → g12 k = g k := fun k hk => (hg12 k (by omega)).trans (hGG k hk)
  have v1 : CrB E A9 g12 (i + 1) := v1.mv (fun _ _ _ => rfl) (fun k h1 h2 => hg12 k (by omega))
  have hW : wH E (wF A (i + 1) sz) A9 (i + 6) s_ g12 H locs := hW
  refine lv_aload_n X.1 X.2.1 dX2_init_15 rfl (lv_at hl 0 rfl) ?_
  refine x_bipush X (by decide) dX2_init_16 ?_
  refine x_newI X hW w_11 10 (by decide +kernel) (by decide +kernel) (by decide) (Nat.le_of_ble_eq_true rfl) (Nat.le_of_ble_eq_true rfl) dX2_init_18 (fun q6 A18 g18 H hq6 hA18 hg18 f6 hW => ?_)
  have ha : a0 = A18 i := ha.trans (hA18 (i) (by omega)).symm
  have hAA : ∀ k, k < i + 1 → A18 k = A k := fun k hk => (hA18 k (by omega)).trans (hAA k hk)
  have hGG : ∀ k, k < i → g18 k = g k := fun k hk => (hg18 k (by omega)).trans (hGG k hk)
  have ho : g18 i = .inr (2, [.ref q1, .null, .null, .null, .null, .null, .null, .null, .null, .null]) := (hg18 (i) (by omega)).trans ho
  have hq1 : q1 = A18 (i + 1) := hq1.trans (hA18 (i + 1) (by omega)).symm
  have v1 : CrB E A18 g18 (i + 1) := v1.mv (fun k h1 h2 => hA18 k (by omega)) (fun k h1 h2 => hg18 k (by omega))
  have hW : wH E (wF A (i + 1) sz) A18 (i + 7) s_ g18 H locs := hW
  refine W.widen (k := 6) (n := 43) (Nat.le_of_ble_eq_true rfl) (Nat.le_of_ble_eq_true rfl) ?_
  refine xc_putF X hnm hW (v := .ref q6) ha (by omega) ho rfl w_9 tyX2 tyX2_ok nmX2 1 (by decide) w_12 rfl rfl rfl rfl (by show 1 < 10; decide) dX2_init_20 (fun g20 H locs ho hg20 hW => ?_)
  have ho : g20 i = .inr (2, [.ref q1, .ref q6, .null, .null, .null, .null, .null, .null, .null, .null]) := ho
  have hGG : ∀ k, k < i → g20 k = g k := fun k hk => (hg20 k (by omega)).trans (hGG k hk)
  have v1 : CrB E A18 g20 (i + 1) := v1.mv (fun _ _ _ => rfl) (fun k h1 h2 => hg20 k (by omega))
  have f6 : g20 (i + 6) = aI E 10 (fun _ => 0) := (hg20 (i + 6) (by omega)).trans f6
  have hW : wH E (wF A (i + 1) sz) A18 (i + 7) s_ g20 H locs := hW
  refine lv_aload_n X.1 X.2.1 dX2_init_23 rfl (lv_at hl 0 rfl) ?_
  refine x_bipush X (by decide) dX2_init_24 ?_
  refine x_newI X hW w_11 10 (by decide +kernel) (by decide +kernel) (by decide) (Nat.le_of_ble_eq_true rfl) (Nat.le_of_ble_eq_true rfl) dX2_init_26 (fun q7 A26 g26 H hq7 hA26 hg26 f7 hW => ?_)
  have ha : a0 = A26 i := ha.trans (hA26 (i) (by omega)).symm
  have hAA : ∀ k, k < i + 1 → A26 k = A k := fun k hk => (hA26 k (by omega)).trans (hAA k hk)
  have hGG : ∀ k, k < i → g26 k = g k := fun k hk => (hg26 k (by omega)).trans (hGG k hk)
  have ho : g26 i = .inr (2, [.ref q1, .ref q6, .null, .null, .null, .null, .null, .null, .null, .null]) := (hg26 (i) (by omega)).trans ho
  have hq1 : q1 = A26 (i + 1) := hq1.trans (hA26 (i + 1) (by omega)).symm
  have v1 : CrB E A26 g26 (i + 1) := v1.mv (fun k h1 h2 => hA26 k (by omega)) (fun k h1 h2 => hg26 k (by omega))
  have hq6 : q6 = A26 (i + 6) := hq6.trans (hA26 (i + 6) (by omega)).symm
  have f6 : g26 (i + 6) = aI E 10 (fun _ => 0) := (hg26 (i + 6) (by omega)).trans f6
  have hW : wH E (wF A (i + 1) sz) A26 (i + 8) s_ g26 H locs := hW
  refine W.widen (k := 7) (n := 53) (Nat.le_of_ble_eq_true rfl) (Nat.le_of_ble_eq_true rfl) ?_
  refine xc_putF X hnm hW (v := .ref q7) ha (by omega) ho rfl w_9 tyX2 tyX2_ok nmX2 2 (by decide) w_13 rfl rfl rfl rfl (by show 2 < 10; decide) dX2_init_28 (fun g28 H locs ho hg28 hW => ?_)
  have ho : g28 i = .inr (2, [.ref q1, .ref q6, .ref q7, .null, .null, .null, .null, .null, .null, .null]) := ho
  have hGG : ∀ k, k < i → g28 k = g k := fun k hk => (hg28 k (by omega)).trans (hGG k hk)
  have v1 : CrB E A26 g28 (i + 1) := v1.mv (fun _ _ _ => rfl) (fun k h1 h2 => hg28 k (by omega))
  have f6 : g28 (i + 6) = aI E 10 (fun _ => 0) := (hg28 (i + 6) (by omega)).trans f6
  have f7 : g28 (i + 7) = aI E 10 (fun _ => 0) := (hg28 (i + 7) (by omega)).trans f7
  have hW : wH E (wF A (i + 1) sz) A26 (i + 8) s_ g28 H locs := hW
  refine lv_aload_n X.1 X.2.1 dX2_init_31 rfl (lv_at hl 0 rfl) ?_
  refine x_bipush X (by decide) dX2_init_32 ?_
  refine x_newI X hW w_11 10 (by decide +kernel) (by decide +kernel) (by decide) (Nat.le_of_ble_eq_true rfl) (Nat.le_of_ble_eq_true rfl) dX2_init_34 (fun q8 A34 g34 H hq8 hA34 hg34 f8 hW => ?_)
  have ha : a0 = A34 i := ha.trans (hA34 (i) (by omega)).symm
  have hAA : ∀ k, k < i + 1 → A34 k = A k := fun k hk => (hA34 k (by omega)).trans (hAA k hk)
  have hGG : ∀ k, k < i → g34 k = g k := fun k hk => (hg34 k (by omega)).trans (hGG k hk)
  have ho : g34 i = .inr (2, [.ref q1, .ref q6, .ref q7, .null, .null, .null, .null, .null, .null, .null]) := (hg34 (i) (by omega)).trans ho
  have hq1 : q1 = A34 (i + 1) := hq1.trans (hA34 (i + 1) (by omega)).symm
  have v1 : CrB E A34 g34 (i + 1) := v1.mv (fun k h1 h2 => hA34 k (by omega)) (fun k h1 h2 => hg34 k (by omega))
  have hq6 : q6 = A34 (i + 6) := hq6.trans (hA34 (i + 6) (by omega)).symm
  have f6 : g34 (i + 6) = aI E 10 (fun _ => 0) := (hg34 (i + 6) (by omega)).trans f6
  have hq7 : q7 = A34 (i + 7) := hq7.trans (hA34 (i + 7) (by omega)).symm
  have f7 : g34 (i + 7) = aI E 10 (fun _ => 0) := (hg34 (i + 7) (by omega)).trans f7
  have hW : wH E (wF A (i + 1) sz) A34 (i + 9) s_ g34 H locs := hW
  refine W.widen (k := 8) (n := 63) (Nat.le_of_ble_eq_true rfl) (Nat.le_of_ble_eq_true rfl) ?_
  refine xc_putF X hnm hW (v := .ref q8) ha (by omega) ho rfl w_9 tyX2 tyX2_ok nmX2 3 (by decide) w_14 rfl rfl rfl rfl (by show 3 < 10; decide) dX2_init_36 (fun g36 H locs ho hg36 hW => ?_)
  have ho : g36 i = .inr (2, [.ref q1, .ref q6, .ref q7, .ref q8, .null, .null, .null, .null, .null, .null]) := ho
  have hGG : ∀ k, k < i → g36 k = g k := fun k hk => (hg36 k (by omega)).trans (hGG k hk)
  have v1 : CrB E A34 g36 (i + 1) := v1.mv (fun _ _ _ => rfl) (fun k h1 h2 => hg36 k (by omega))
  have f6 : g36 (i + 6) = aI E 10 (fun _ => 0) := (hg36 (i + 6) (by omega)).trans f6
  have f7 : g36 (i + 7) = aI E 10 (fun _ => 0) := (hg36 (i + 7) (by omega)).trans f7
  have f8 : g36 (i + 8) = aI E 10 (fun _ => 0) := (hg36 (i + 8) (by omega)).trans f8
  have hW : wH E (wF A (i + 1) sz) A34 (i + 9) s_ g36 H locs := hW
  refine lv_aload_n X.1 X.2.1 dX2_init_39 rfl (lv_at hl 0 rfl) ?_
  refine x_bipush X (by decide) dX2_init_40 ?_
  refine x_newR X hW (t := 3) rfl w_15 hO.2.1 11 (by decide +kernel) (by decide +kernel) (by decide) (Nat.le_of_ble_eq_true rfl) (Nat.le_of_ble_eq_true rfl) dX2_init_42 (fun q9 A42 g42 H hq9 hA42 hg42 f9 hW => ?_)
  have ha : a0 = A42 i := ha.trans (hA42 (i) (by omega)).symm
  have hAA : ∀ k, k < i + 1 → A42 k = A k := fun k hk => (hA42 k (by omega)).trans (hAA k hk)
  have hGG : ∀ k, k < i → g42 k = g k := fun k hk => (hg42 k (by omega)).trans (hGG k hk)
  have ho : g42 i = .inr (2, [.ref q1, .ref q6, .ref q7, .ref q8, .null, .null, .null, .null, .null, .null]) := (hg42 (i) (by omega)).trans ho
  have hq1 : q1 = A42 (i + 1) := hq1.trans (hA42 (i + 1) (by omega)).symm
  have v1 : CrB E A42 g42 (i + 1) := v1.mv (fun k h1 h2 => hA42 k (by omega)) (fun k h1 h2 => hg42 k (by omega))
  have hq6 : q6 = A42 (i + 6) := hq6.trans (hA42 (i + 6) (by omega)).symm
  have f6 : g42 (i + 6) = aI E 10 (fun _ => 0) := (hg42 (i + 6) (by omega)).trans f6
  have hq7 : q7 = A42 (i + 7) := hq7.trans (hA42 (i + 7) (by omega)).symm
  have f7 : g42 (i + 7) = aI E 10 (fun _ => 0) := (hg42 (i + 7) (by omega)).trans f7
  have hq8 : q8 = A42 (i + 8) := hq8.trans (hA42 (i + 8) (by omega)).symm
  have f8 : g42 (i + 8) = aI E 10 (fun _ => 0) := (hg42 (i + 8) (by omega)).trans f8
  have hW : wH E (wF A (i + 1) sz) A42 (i + 10) s_ g42 H locs := hW
  refine W.widen (k := 9) (n := 74) (Nat.le_of_ble_eq_true rfl) (Nat.le_of_ble_eq_true rfl) ?_
  refine xc_putF X hnm hW (v := .ref q9) ha (by omega) ho rfl w_9 tyX2 tyX2_ok nmX2 4 (by decide) w_16 rfl rfl rfl rfl (by show 4 < 10; decide) dX2_init_45 (fun g45 H locs ho hg45 hW => ?_)
  have ho : g45 i = .inr (2, [.ref q1, .ref q6, .ref q7, .ref q8, .ref q9, .null, .null, .null, .null, .null]) := ho
  have hGG : ∀ k, k < i → g45 k = g k := fun k hk => (hg45 k (by omega)).trans (hGG k hk)
  have v1 : CrB E A42 g45 (i + 1) := v1.mv (fun _ _ _ => rfl) (fun k h1 h2 => hg45 k (by omega))
  have f6 : g45 (i + 6) = aI E 10 (fun _ => 0) := (hg45 (i + 6) (by omega)).trans f6
  have f7 : g45 (i + 7) = aI E 10 (fun _ => 0) := (hg45 (i + 7) (by omega)).trans f7
  have f8 : g45 (i + 8) = aI E 10 (fun _ => 0) := (hg45 (i + 8) (by omega)).trans f8
  have f9 : g45 (i + 9) = aR E 3 11 (fun _ => none) := (hg45 (i + 9) (by omega)).trans f9
  have hW : wH E (wF A (i + 1) sz) A42 (i + 10) s_ g45 H locs := hW
  refine lv_aload_n X.1 X.2.1 dX2_init_48 rfl (lv_at hl 0 rfl) ?_
  refine x_new X hW (ci := 5) (fs := [.null]) rfl w_19 tyX5 tyX5_ok w_15 w_17 w_18 dfX5 (Nat.le_of_ble_eq_true rfl) (Nat.le_of_ble_eq_true rfl) dX2_init_49 (fun q10 A49 g49 H hq10 hA49 hg49 f10 hW => ?_)
  have ha : a0 = A49 i := ha.trans (hA49 (i) (by omega)).symm
  have hAA : ∀ k, k < i + 1 → A49 k = A k := fun k hk => (hA49 k (by omega)).trans (hAA k hk)
  have hGG : ∀ k, k < i → g49 k = g k := fun k hk => (hg49 k (by omega)).trans (hGG k hk)
  have ho : g49 i = .inr (2, [.ref q1, .ref q6, .ref q7, .ref q8, .ref q9, .null, .null, .null, .null, .null]) := (hg49 (i) (by omega)).trans ho
  have hq1 : q1 = A49 (i + 1) := hq1.trans (hA49 (i + 1) (by omega)).symm
  have v1 : CrB E A49 g49 (i + 1) := v1.mv (fun k h1 h2 => hA49 k (by omega)) (fun k h1 h2 => hg49 k (by omega))
  have hq6 : q6 = A49 (i + 6) := hq6.trans (hA49 (i + 6) (by omega)).symm
  have f6 : g49 (i + 6) = aI E 10 (fun _ => 0) := (hg49 (i + 6) (by omega)).trans f6
  have hq7 : q7 = A49 (i + 7) := hq7.trans (hA49 (i + 7) (by omega)).symm
  have f7 : g49 (i + 7) = aI E 10 (fun _ => 0) := (hg49 (i + 7) (by omega)).trans f7
  have hq8 : q8 = A49 (i + 8) := hq8.trans (hA49 (i + 8) (by omega)).symm
  have f8 : g49 (i + 8) = aI E 10 (fun _ => 0) := (hg49 (i + 8) (by omega)).trans f8
  have hq9 : q9 = A49 (i + 9) := hq9.trans (hA49 (i + 9) (by omega)).symm
  have f9 : g49 (i + 9) = aR E 3 11 (fun _ => none) := (hg49 (i + 9) (by omega)).trans f9
  have hW : wH E (wF A (i + 1) sz) A49 (i + 11) s_ g49 H locs := hW
  refine W.widen (k := 10) (n := 75) (Nat.le_of_ble_eq_true rfl) (Nat.le_of_ble_eq_true rfl) ?_
  refine lv_dup X.1 X.2.1 dX2_init_52 rfl ?_
  refine x_cIN X hW hO hq10 (c_X5_init l E A49 (i + 11) H.size g49 (i + 10) rfl f10) gX2_init_X5_init_n34 rfl rfl rfl (by decide) w_18 w_20 rfl (by decide +kernel) ⟨(Nat.le_of_ble_eq_true rfl), (Nat.le_of_ble_eq_true rfl)⟩ hl.1 (Nat.le_of_ble_eq_true rfl) dX2_init_53 ⟨(Nat.le_of_ble_eq_true rfl), (Nat.le_of_ble_eq_true rfl)⟩ (fun A53 g53 H locs hp53 hW => ?_)
  obtain ⟨hA53, hg53, v10⟩ := hp53
  have ha : a0 = A53 i := ha.trans (hA53 (i) (by omega)).symm
  have hAA : ∀ k, k < i + 1 → A53 k = A k := fun k hk => (hA53 k (by omega)).trans (hAA k hk)
  have hGG : ∀ k, k < i → g53 k = g k := fun k hk => (hg53 k (by omega)).trans (hGG k hk)
  have ho : g53 i = .inr (2, [.ref q1, .ref q6, .ref q7, .ref q8, .ref q9, .null, .null, .null, .null, .null]) := (hg53 (i) (by omega)).trans ho
  have hq1 : q1 = A53 (i + 1) := hq1.trans (hA53 (i + 1) (by omega)).symm
  have v1 : CrB E A53 g53 (i + 1) := v1.mv (fun k h1 h2 => hA53 k (by omega)) (fun k h1 h2 => hg53 k (by omega))
  have hq6 : q6 = A53 (i + 6) := hq6.trans (hA53 (i + 6) (by omega)).symm
  have f6 : g53 (i + 6) = aI E 10 (fun _ => 0) := (hg53 (i + 6) (by omega)).trans f6
  have hq7 : q7 = A53 (i + 7) := hq7.trans (hA53 (i + 7) (by omega)).symm
  have f7 : g53 (i + 7) = aI E 10 (fun _ => 0) := (hg53 (i + 7) (by omega)).trans f7
  have hq8 : q8 = A53 (i + 8) := hq8.trans (hA53 (i + 8) (by omega)).symm
  have f8 : g53 (i + 8) = aI E 10 (fun _ => 0) := (hg53 (i + 8) (by omega)).trans f8
  have hq9 : q9 = A53 (i + 9) := hq9.trans (hA53 (i + 9) (by omega)).symm
  have f9 : g53 (i + 9) = aR E 3 11 (fun _ => none) := (hg53 (i + 9) (by omega)).trans f9
  have hq10 : q10 = A53 (i + 10) := hq10.trans (hA53 (i + 10) (by omega)).symm
  have hW : wH E (wF A (i + 1) sz) A53 (i + 12) s_ g53 H locs := hW
  refine W.widen (k := 11) (n := 81) (Nat.le_of_ble_eq_true rfl) (Nat.le_of_ble_eq_true rfl) ?_
  refine xc_putF X hnm hW (v := .ref q10) ha (by omega) ho rfl w_9 tyX2 tyX2_ok nmX2 5 (by decide) w_21 rfl rfl rfl rfl (by show 5 < 10; decide) dX2_init_56 (fun g56 H locs ho hg56 hW => ?_)
  have ho : g56 i = .inr (2, [.ref q1, .ref q6, .ref q7, .ref q8, .ref q9, .ref q10, .null, .null, .null, .null]) := ho
  have hGG : ∀ k, k < i → g56 k = g k := fun k hk => (hg56 k (by omega)).trans (hGG k hk)
  have v1 : CrB E A53 g56 (i + 1) := v1.mv (fun _ _ _ => rfl) (fun k h1 h2 => hg56 k (by omega))
  have f6 : g56 (i + 6) = aI E 10 (fun _ => 0) := (hg56 (i + 6) (by omega)).trans f6
  have f7 : g56 (i + 7) = aI E 10 (fun _ => 0) := (hg56 (i + 7) (by omega)).trans f7
  have f8 : g56 (i + 8) = aI E 10 (fun _ => 0) := (hg56 (i + 8) (by omega)).trans f8
  have f9 : g56 (i + 9) = aR E 3 11 (fun _ => none) := (hg56 (i + 9) (by omega)).trans f9
  have v10 : NatV E A53 g56 (i + 10) 0 := v10.mv (fun _ _ _ => rfl) (fun k h1 h2 => hg56 k (by omega))
  have hW : wH E (wF A (i + 1) sz) A53 (i + 12) s_ g56 H locs := hW
  refine lv_aload_n X.1 X.2.1 dX2_init_59 rfl (lv_at hl 0 rfl) ?_
  refine x_new X hW (ci := 5) (fs := [.null]) rfl w_19 tyX5 tyX5_ok w_15 w_17 w_18 dfX5 (Nat.le_of_ble_eq_true rfl) (Nat.le_of_ble_eq_true rfl) dX2_init_60 (fun q12 A60 g60 H hq12 hA60 hg60 f12 hW => ?_)
  have ha : a0 = A60 i := ha.trans (hA60 (i) (by omega)).symm
  have hAA : ∀ k, k < i + 1 → A60 k = A k := fun k hk => (hA60 k (by omega)).trans (hAA k hk)
  have hGG : ∀ k, k < i → g60 k = g k := fun k hk => (hg60 k (by omega)).trans (hGG k hk)
  have ho : g60 i = .inr (2, [.ref q1, .ref q6, .ref q7, .ref q8, .ref q9, .ref q10, .null, .null, .null, .null]) := (hg60 (i) (by omega)).trans ho
  have hq1 : q1 = A60 (i + 1) := hq1.trans (hA60 (i + 1) (by omega)).symm
  have v1 : CrB E A60 g60 (i + 1) := v1.mv (fun k h1 h2 => hA60 k (by omega)) (fun k h1 h2 => hg60 k (by omega))
  have hq6 : q6 = A60 (i + 6) := hq6.trans (hA60 (i + 6) (by omega)).symm
  have f6 : g60 (i + 6) = aI E 10 (fun _ => 0) := (hg60 (i + 6) (by omega)).trans f6
  have hq7 : q7 = A60 (i + 7) := hq7.trans (hA60 (i + 7) (by omega)).symm
  have f7 : g60 (i + 7) = aI E 10 (fun _ => 0) := (hg60 (i + 7) (by omega)).trans f7
  have hq8 : q8 = A60 (i + 8) := hq8.trans (hA60 (i + 8) (by omega)).symm
  have f8 : g60 (i + 8) = aI E 10 (fun _ => 0) := (hg60 (i + 8) (by omega)).trans f8
  have hq9 : q9 = A60 (i + 9) := hq9.trans (hA60 (i + 9) (by omega)).symm
  have f9 : g60 (i + 9) = aR E 3 11 (fun _ => none) := (hg60 (i + 9) (by omega)).trans f9
  have hq10 : q10 = A60 (i + 10) := hq10.trans (hA60 (i + 10) (by omega)).symm
  have v10 : NatV E A60 g60 (i + 10) 0 := v10.mv (fun k h1 h2 => hA60 k (by omega)) (fun k h1 h2 => hg60 k (by omega))
  have hW : wH E (wF A (i + 1) sz) A60 (i + 13) s_ g60 H locs := hW
  refine W.widen (k := 12) (n := 82) (Nat.le_of_ble_eq_true rfl) (Nat.le_of_ble_eq_true rfl) ?_
  refine lv_dup X.1 X.2.1 dX2_init_63 rfl ?_
  refine x_cIN X hW hO hq12 (c_X5_init l E A60 (i + 13) H.size g60 (i + 12) rfl f12) gX2_init_X5_init_n34 rfl rfl rfl (by decide) w_18 w_20 rfl (by decide +kernel) ⟨(Nat.le_of_ble_eq_true rfl), (Nat.le_of_ble_eq_true rfl)⟩ hl.1 (Nat.le_of_ble_eq_true rfl) dX2_init_64 ⟨(Nat.le_of_ble_eq_true rfl), (Nat.le_of_ble_eq_true rfl)⟩ (fun A64 g64 H locs hp64 hW => ?_)
  obtain ⟨hA64, hg64, v12⟩ := hp64
  have ha : a0 = A64 i := ha.trans (hA64 (i) (by omega)).symm
  have hAA : ∀ k, k < i + 1 → A64 k = A k := fun k hk => (hA64 k (by omega)).trans (hAA k hk)
  have hGG : ∀ k, k < i → g64 k = g k := fun k hk => (hg64 k (by omega)).trans (hGG k hk)
  have ho : g64 i = .inr (2, [.ref q1, .ref q6, .ref q7, .ref q8, .ref q9, .ref q10, .null, .null, .null, .null]) := (hg64 (i) (by omega)).trans ho
  have hq1 : q1 = A64 (i + 1) := hq1.trans (hA64 (i + 1) (by omega)).symm
  have v1 : CrB E A64 g64 (i + 1) := v1.mv (fun k h1 h2 => hA64 k (by omega)) (fun k h1 h2 => hg64 k (by omega))
  have hq6 : q6 = A64 (i + 6) := hq6.trans (hA64 (i + 6) (by omega)).symm
  have f6 : g64 (i + 6) = aI E 10 (fun _ => 0) := (hg64 (i + 6) (by omega)).trans f6
  have hq7 : q7 = A64 (i + 7) := hq7.trans (hA64 (i + 7) (by omega)).symm
  have f7 : g64 (i + 7) = aI E 10 (fun _ => 0) := (hg64 (i + 7) (by omega)).trans f7
  have hq8 : q8 = A64 (i + 8) := hq8.trans (hA64 (i + 8) (by omega)).symm
  have f8 : g64 (i + 8) = aI E 10 (fun _ => 0) := (hg64 (i + 8) (by omega)).trans f8
  have hq9 : q9 = A64 (i + 9) := hq9.trans (hA64 (i + 9) (by omega)).symm
  have f9 : g64 (i + 9) = aR E 3 11 (fun _ => none) := (hg64 (i + 9) (by omega)).trans f9
  have hq10 : q10 = A64 (i + 10) := hq10.trans (hA64 (i + 10) (by omega)).symm
  have v10 : NatV E A64 g64 (i + 10) 0 := v10.mv (fun k h1 h2 => hA64 k (by omega)) (fun k h1 h2 => hg64 k (by omega))
  have hq12 : q12 = A64 (i + 12) := hq12.trans (hA64 (i + 12) (by omega)).symm
  have hW : wH E (wF A (i + 1) sz) A64 (i + 14) s_ g64 H locs := hW
  refine W.widen (k := 13) (n := 88) (Nat.le_of_ble_eq_true rfl) (Nat.le_of_ble_eq_true rfl) ?_
  refine xc_putF X hnm hW (v := .ref q12) ha (by omega) ho rfl w_9 tyX2 tyX2_ok nmX2 6 (by decide) w_22 rfl rfl rfl rfl (by show 6 < 10; decide) dX2_init_67 (fun g67 H locs ho hg67 hW => ?_)
  have ho : g67 i = .inr (2, [.ref q1, .ref q6, .ref q7, .ref q8, .ref q9, .ref q10, .ref q12, .null, .null, .null]) := ho
  have hGG : ∀ k, k < i → g67 k = g k := fun k hk => (hg67 k (by omega)).trans (hGG k hk)
  have v1 : CrB E A64 g67 (i + 1) := v1.mv (fun _ _ _ => rfl) (fun k h1 h2 => hg67 k (by omega))
  have f6 : g67 (i + 6) = aI E 10 (fun _ => 0) := (hg67 (i + 6) (by omega)).trans f6
  have f7 : g67 (i + 7) = aI E 10 (fun _ => 0) := (hg67 (i + 7) (by omega)).trans f7
  have f8 : g67 (i + 8) = aI E 10 (fun _ => 0) := (hg67 (i + 8) (by omega)).trans f8
  have f9 : g67 (i + 9) = aR E 3 11 (fun _ => none) := (hg67 (i + 9) (by omega)).trans f9
  have v10 : NatV E A64 g67 (i + 10) 0 := v10.mv (fun _ _ _ => rfl) (fun k h1 h2 => hg67 k (by omega))
  have v12 : NatV E A64 g67 (i + 12) 0 := v12.mv (fun _ _ _ => rfl) (fun k h1 h2 => hg67 k (by omega))
  have hW : wH E (wF A (i + 1) sz) A64 (i + 14) s_ g67 H locs := hW
  refine lv_aload_n X.1 X.2.1 dX2_init_70 rfl (lv_at hl 0 rfl) ?_
  refine x_new X hW (ci := 5) (fs := [.null]) rfl w_19 tyX5 tyX5_ok w_15 w_17 w_18 dfX5 (Nat.le_of_ble_eq_true rfl) (Nat.le_of_ble_eq_true rfl) dX2_init_71 (fun q14 A71 g71 H hq14 hA71 hg71 f14 hW => ?_)
  have ha : a0 = A71 i := ha.trans (hA71 (i) (by omega)).symm
  have hAA : ∀ k, k < i + 1 → A71 k = A k := fun k hk => (hA71 k (by omega)).trans (hAA k hk)
  have hGG : ∀ k, k < i → g71 k = g k := fun k hk => (hg71 k (by omega)).trans (hGG k hk)
  have ho : g71 i = .inr (2, [.ref q1, .ref q6, .ref q7, .ref q8, .ref q9, .ref q10, .ref q12, .null, .null, .null]) := (hg71 (i) (by omega)).trans ho
  have hq1 : q1 = A71 (i + 1) := hq1.trans (hA71 (i + 1) (by omega)).symm
  have v1 : CrB E A71 g71 (i + 1) := v1.mv (fun k h1 h2 => hA71 k (by omega)) (fun k h1 h2 => hg71 k (by omega))
  have hq6 : q6 = A71 (i + 6) := hq6.trans (hA71 (i + 6) (by omega)).symm
  have f6 : g71 (i + 6) = aI E 10 (fun _ => 0) := (hg71 (i + 6) (by omega)).trans f6
  have hq7 : q7 = A71 (i + 7) := hq7.trans (hA71 (i + 7) (by omega)).symm
  have f7 : g71 (i + 7) = aI E 10 (fun _ => 0) := (hg71 (i + 7) (by omega)).trans f7
  have hq8 : q8 = A71 (i + 8) := hq8.trans (hA71 (i + 8) (by omega)).symm
  have f8 : g71 (i + 8) = aI E 10 (fun _ => 0) := (hg71 (i + 8) (by omega)).trans f8
  have hq9 : q9 = A71 (i + 9) := hq9.trans (hA71 (i + 9) (by omega)).symm
  have f9 : g71 (i + 9) = aR E 3 11 (fun _ => none) := (hg71 (i + 9) (by omega)).trans f9
  have hq10 : q10 = A71 (i + 10) := hq10.trans (hA71 (i + 10) (by omega)).symm
  have v10 : NatV E A71 g71 (i + 10) 0 := v10.mv (fun k h1 h2 => hA71 k (by omega)) (fun k h1 h2 => hg71 k (by omega))
  have hq12 : q12 = A71 (i + 12) := hq12.trans (hA71 (i + 12) (by omega)).symm
  have v12 : NatV E A71 g71 (i + 12) 0 := v12.mv (fun k h1 h2 => hA71 k (by omega)) (fun k h1 h2 => hg71 k (by omega))
  have hW : wH E (wF A (i + 1) sz) A71 (i + 15) s_ g71 H locs := hW
  refine W.widen (k := 14) (n := 89) (Nat.le_of_ble_eq_true rfl) (Nat.le_of_ble_eq_true rfl) ?_
  refine lv_dup X.1 X.2.1 dX2_init_74 rfl ?_
  refine x_cIN X hW hO hq14 (c_X5_init l E A71 (i + 15) H.size g71 (i + 14) rfl f14) gX2_init_X5_init_n34 rfl rfl rfl (by decide) w_18 w_20 rfl (by decide +kernel) ⟨(Nat.le_of_ble_eq_true rfl), (Nat.le_of_ble_eq_true rfl)⟩ hl.1 (Nat.le_of_ble_eq_true rfl) dX2_init_75 ⟨(Nat.le_of_ble_eq_true rfl), (Nat.le_of_ble_eq_true rfl)⟩ (fun A75 g75 H locs hp75 hW => ?_)
  obtain ⟨hA75, hg75, v14⟩ := hp75
  have ha : a0 = A75 i := ha.trans (hA75 (i) (by omega)).symm
  have hAA : ∀ k, k < i + 1 → A75 k = A k := fun k hk => (hA75 k (by omega)).trans (hAA k hk)
  have hGG : ∀ k, k < i → g75 k = g k := fun k hk => (hg75 k (by omega)).trans (hGG k hk)
  have ho : g75 i = .inr (2, [.ref q1, .ref q6, .ref q7, .ref q8, .ref q9, .ref q10, .ref q12, .null, .null, .null]) := (hg75 (i) (by omega)).trans ho
  have hq1 : q1 = A75 (i + 1) := hq1.trans (hA75 (i + 1) (by omega)).symm
  have v1 : CrB E A75 g75 (i + 1) := v1.mv (fun k h1 h2 => hA75 k (by omega)) (fun k h1 h2 => hg75 k (by omega))
  have hq6 : q6 = A75 (i + 6) := hq6.trans (hA75 (i + 6) (by omega)).symm
  have f6 : g75 (i + 6) = aI E 10 (fun _ => 0) := (hg75 (i + 6) (by omega)).trans f6
  have hq7 : q7 = A75 (i + 7) := hq7.trans (hA75 (i + 7) (by omega)).symm
  have f7 : g75 (i + 7) = aI E 10 (fun _ => 0) := (hg75 (i + 7) (by omega)).trans f7
  have hq8 : q8 = A75 (i + 8) := hq8.trans (hA75 (i + 8) (by omega)).symm
  have f8 : g75 (i + 8) = aI E 10 (fun _ => 0) := (hg75 (i + 8) (by omega)).trans f8
  have hq9 : q9 = A75 (i + 9) := hq9.trans (hA75 (i + 9) (by omega)).symm
  have f9 : g75 (i + 9) = aR E 3 11 (fun _ => none) := (hg75 (i + 9) (by omega)).trans f9
  have hq10 : q10 = A75 (i + 10) := hq10.trans (hA75 (i + 10) (by omega)).symm
  have v10 : NatV E A75 g75 (i + 10) 0 := v10.mv (fun k h1 h2 => hA75 k (by omega)) (fun k h1 h2 => hg75 k (by omega))
  have hq12 : q12 = A75 (i + 12) := hq12.trans (hA75 (i + 12) (by omega)).symm
  have v12 : NatV E A75 g75 (i + 12) 0 := v12.mv (fun k h1 h2 => hA75 k (by omega)) (fun k h1 h2 => hg75 k (by omega))
  have hq14 : q14 = A75 (i + 14) := hq14.trans (hA75 (i + 14) (by omega)).symm
  have hW : wH E (wF A (i + 1) sz) A75 (i + 16) s_ g75 H locs := hW
  refine W.widen (k := 15) (n := 95) (Nat.le_of_ble_eq_true rfl) (Nat.le_of_ble_eq_true rfl) ?_
  refine xc_putF X hnm hW (v := .ref q14) ha (by omega) ho rfl w_9 tyX2 tyX2_ok nmX2 7 (by decide) w_23 rfl rfl rfl rfl (by show 7 < 10; decide) dX2_init_78 (fun g78 H locs ho hg78 hW => ?_)
  have ho : g78 i = .inr (2, [.ref q1, .ref q6, .ref q7, .ref q8, .ref q9, .ref q10, .ref q12, .ref q14, .null, .null]) := ho
  have hGG : ∀ k, k < i → g78 k = g k := fun k hk => (hg78 k (by omega)).trans (hGG k hk)
  have v1 : CrB E A75 g78 (i + 1) := v1.mv (fun _ _ _ => rfl) (fun k h1 h2 => hg78 k (by omega))
  have f6 : g78 (i + 6) = aI E 10 (fun _ => 0) := (hg78 (i + 6) (by omega)).trans f6
  have f7 : g78 (i + 7) = aI E 10 (fun _ => 0) := (hg78 (i + 7) (by omega)).trans f7
  have f8 : g78 (i + 8) = aI E 10 (fun _ => 0) := (hg78 (i + 8) (by omega)).trans f8
  have f9 : g78 (i + 9) = aR E 3 11 (fun _ => none) := (hg78 (i + 9) (by omega)).trans f9
  have v10 : NatV E A75 g78 (i + 10) 0 := v10.mv (fun _ _ _ => rfl) (fun k h1 h2 => hg78 k (by omega))
  have v12 : NatV E A75 g78 (i + 12) 0 := v12.mv (fun _ _ _ => rfl) (fun k h1 h2 => hg78 k (by omega))
  have v14 : NatV E A75 g78 (i + 14) 0 := v14.mv (fun _ _ _ => rfl) (fun k h1 h2 => hg78 k (by omega))
  have hW : wH E (wF A (i + 1) sz) A75 (i + 16) s_ g78 H locs := hW
  refine lv_aload_n X.1 X.2.1 dX2_init_81 rfl (lv_at hl 0 rfl) ?_
  refine x_new X hW (ci := 5) (fs := [.null]) rfl w_19 tyX5 tyX5_ok w_15 w_17 w_18 dfX5 (Nat.le_of_ble_eq_true rfl) (Nat.le_of_ble_eq_true rfl) dX2_init_82 (fun q16 A82 g82 H hq16 hA82 hg82 f16 hW => ?_)
  have ha : a0 = A82 i := ha.trans (hA82 (i) (by omega)).symm
  have hAA : ∀ k, k < i + 1 → A82 k = A k := fun k hk => (hA82 k (by omega)).trans (hAA k hk)
  have hGG : ∀ k, k < i → g82 k = g k := fun k hk => (hg82 k (by omega)).trans (hGG k hk)
  have ho : g82 i = .inr (2, [.ref q1, .ref q6, .ref q7, .ref q8, .ref q9, .ref q10, .ref q12, .ref q14, .null, .null]) := (hg82 (i) (by omega)).trans ho
  have hq1 : q1 = A82 (i + 1) := hq1.trans (hA82 (i + 1) (by omega)).symm
  have v1 : CrB E A82 g82 (i + 1) := v1.mv (fun k h1 h2 => hA82 k (by omega)) (fun k h1 h2 => hg82 k (by omega))
  have hq6 : q6 = A82 (i + 6) := hq6.trans (hA82 (i + 6) (by omega)).symm
  have f6 : g82 (i + 6) = aI E 10 (fun _ => 0) := (hg82 (i + 6) (by omega)).trans f6
  have hq7 : q7 = A82 (i + 7) := hq7.trans (hA82 (i + 7) (by omega)).symm
  have f7 : g82 (i + 7) = aI E 10 (fun _ => 0) := (hg82 (i + 7) (by omega)).trans f7
  have hq8 : q8 = A82 (i + 8) := hq8.trans (hA82 (i + 8) (by omega)).symm
  have f8 : g82 (i + 8) = aI E 10 (fun _ => 0) := (hg82 (i + 8) (by omega)).trans f8
  have hq9 : q9 = A82 (i + 9) := hq9.trans (hA82 (i + 9) (by omega)).symm
  have f9 : g82 (i + 9) = aR E 3 11 (fun _ => none) := (hg82 (i + 9) (by omega)).trans f9
  have hq10 : q10 = A82 (i + 10) := hq10.trans (hA82 (i + 10) (by omega)).symm
  have v10 : NatV E A82 g82 (i + 10) 0 := v10.mv (fun k h1 h2 => hA82 k (by omega)) (fun k h1 h2 => hg82 k (by omega))
  have hq12 : q12 = A82 (i + 12) := hq12.trans (hA82 (i + 12) (by omega)).symm
  have v12 : NatV E A82 g82 (i + 12) 0 := v12.mv (fun k h1 h2 => hA82 k (by omega)) (fun k h1 h2 => hg82 k (by omega))
  have hq14 : q14 = A82 (i + 14) := hq14.trans (hA82 (i + 14) (by omega)).symm
  have v14 : NatV E A82 g82 (i + 14) 0 := v14.mv (fun k h1 h2 => hA82 k (by omega)) (fun k h1 h2 => hg82 k (by omega))
  have hW : wH E (wF A (i + 1) sz) A82 (i + 17) s_ g82 H locs := hW
  refine W.widen (k := 16) (n := 96) (Nat.le_of_ble_eq_true rfl) (Nat.le_of_ble_eq_true rfl) ?_
  refine lv_dup X.1 X.2.1 dX2_init_85 rfl ?_
  refine x_cIN X hW hO hq16 (c_X5_init l E A82 (i + 17) H.size g82 (i + 16) rfl f16) gX2_init_X5_init_n34 rfl rfl rfl (by decide) w_18 w_20 rfl (by decide +kernel) ⟨(Nat.le_of_ble_eq_true rfl), (Nat.le_of_ble_eq_true rfl)⟩ hl.1 (Nat.le_of_ble_eq_true rfl) dX2_init_86 ⟨(Nat.le_of_ble_eq_true rfl), (Nat.le_of_ble_eq_true rfl)⟩ (fun A86 g86 H locs hp86 hW => ?_)
  obtain ⟨hA86, hg86, v16⟩ := hp86
  have ha : a0 = A86 i := ha.trans (hA86 (i) (by omega)).symm
  have hAA : ∀ k, k < i + 1 → A86 k = A k := fun k hk => (hA86 k (by omega)).trans (hAA k hk)
  have hGG : ∀ k, k < i → g86 k = g k := fun k hk => (hg86 k (by omega)).trans (hGG k hk)
  have ho : g86 i = .inr (2, [.ref q1, .ref q6, .ref q7, .ref q8, .ref q9, .ref q10, .ref q12, .ref q14, .null, .null]) := (hg86 (i) (by omega)).trans ho
  have hq1 : q1 = A86 (i + 1) := hq1.trans (hA86 (i + 1) (by omega)).symm
  have v1 : CrB E A86 g86 (i + 1) := v1.mv (fun k h1 h2 => hA86 k (by omega)) (fun k h1 h2 => hg86 k (by omega))
  have hq6 : q6 = A86 (i + 6) := hq6.trans (hA86 (i + 6) (by omega)).symm
  have f6 : g86 (i + 6) = aI E 10 (fun _ => 0) := (hg86 (i + 6) (by omega)).trans f6
  have hq7 : q7 = A86 (i + 7) := hq7.trans (hA86 (i + 7) (by omega)).symm
  have f7 : g86 (i + 7) = aI E 10 (fun _ => 0) := (hg86 (i + 7) (by omega)).trans f7
  have hq8 : q8 = A86 (i + 8) := hq8.trans (hA86 (i + 8) (by omega)).symm
  have f8 : g86 (i + 8) = aI E 10 (fun _ => 0) := (hg86 (i + 8) (by omega)).trans f8
  have hq9 : q9 = A86 (i + 9) := hq9.trans (hA86 (i + 9) (by omega)).symm
  have f9 : g86 (i + 9) = aR E 3 11 (fun _ => none) := (hg86 (i + 9) (by omega)).trans f9
  have hq10 : q10 = A86 (i + 10) := hq10.trans (hA86 (i + 10) (by omega)).symm
  have v10 : NatV E A86 g86 (i + 10) 0 := v10.mv (fun k h1 h2 => hA86 k (by omega)) (fun k h1 h2 => hg86 k (by omega))
  have hq12 : q12 = A86 (i + 12) := hq12.trans (hA86 (i + 12) (by omega)).symm
  have v12 : NatV E A86 g86 (i + 12) 0 := v12.mv (fun k h1 h2 => hA86 k (by omega)) (fun k h1 h2 => hg86 k (by omega))
  have hq14 : q14 = A86 (i + 14) := hq14.trans (hA86 (i + 14) (by omega)).symm
  have v14 : NatV E A86 g86 (i + 14) 0 := v14.mv (fun k h1 h2 => hA86 k (by omega)) (fun k h1 h2 => hg86 k (by omega))
  have hq16 : q16 = A86 (i + 16) := hq16.trans (hA86 (i + 16) (by omega)).symm
  have hW : wH E (wF A (i + 1) sz) A86 (i + 18) s_ g86 H locs := hW
  refine W.widen (k := 17) (n := 102) (Nat.le_of_ble_eq_true rfl) (Nat.le_of_ble_eq_true rfl) ?_
  refine xc_putF X hnm hW (v := .ref q16) ha (by omega) ho rfl w_9 tyX2 tyX2_ok nmX2 8 (by decide) w_24 rfl rfl rfl rfl (by show 8 < 10; decide) dX2_init_89 (fun g89 H locs ho hg89 hW => ?_)
  have ho : g89 i = .inr (2, [.ref q1, .ref q6, .ref q7, .ref q8, .ref q9, .ref q10, .ref q12, .ref q14, .ref q16, .null]) := ho
  have hGG : ∀ k, k < i → g89 k = g k := fun k hk => (hg89 k (by omega)).trans (hGG k hk)
  have v1 : CrB E A86 g89 (i + 1) := v1.mv (fun _ _ _ => rfl) (fun k h1 h2 => hg89 k (by omega))
  have f6 : g89 (i + 6) = aI E 10 (fun _ => 0) := (hg89 (i + 6) (by omega)).trans f6
  have f7 : g89 (i + 7) = aI E 10 (fun _ => 0) := (hg89 (i + 7) (by omega)).trans f7
  have f8 : g89 (i + 8) = aI E 10 (fun _ => 0) := (hg89 (i + 8) (by omega)).trans f8
  have f9 : g89 (i + 9) = aR E 3 11 (fun _ => none) := (hg89 (i + 9) (by omega)).trans f9
  have v10 : NatV E A86 g89 (i + 10) 0 := v10.mv (fun _ _ _ => rfl) (fun k h1 h2 => hg89 k (by omega))
  have v12 : NatV E A86 g89 (i + 12) 0 := v12.mv (fun _ _ _ => rfl) (fun k h1 h2 => hg89 k (by omega))
  have v14 : NatV E A86 g89 (i + 14) 0 := v14.mv (fun _ _ _ => rfl) (fun k h1 h2 => hg89 k (by omega))
  have v16 : NatV E A86 g89 (i + 16) 0 := v16.mv (fun _ _ _ => rfl) (fun k h1 h2 => hg89 k (by omega))
  have hW : wH E (wF A (i + 1) sz) A86 (i + 18) s_ g89 H locs := hW
  refine lv_aload_n X.1 X.2.1 dX2_init_92 rfl (lv_at hl 0 rfl) ?_
  refine x_new X hW (ci := 5) (fs := [.null]) rfl w_19 tyX5 tyX5_ok w_15 w_17 w_18 dfX5 (Nat.le_of_ble_eq_true rfl) (Nat.le_of_ble_eq_true rfl) dX2_init_93 (fun q18 A93 g93 H hq18 hA93 hg93 f18 hW => ?_)
  have ha : a0 = A93 i := ha.trans (hA93 (i) (by omega)).symm
  have hAA : ∀ k, k < i + 1 → A93 k = A k := fun k hk => (hA93 k (by omega)).trans (hAA k hk)
  have hGG : ∀ k, k < i → g93 k = g k := fun k hk => (hg93 k (by omega)).trans (hGG k hk)
  have ho : g93 i = .inr (2, [.ref q1, .ref q6, .ref q7, .ref q8, .ref q9, .ref q10, .ref q12, .ref q14, .ref q16, .null]) := (hg93 (i) (by omega)).trans ho
  have hq1 : q1 = A93 (i + 1) := hq1.trans (hA93 (i + 1) (by omega)).symm
  have v1 : CrB E A93 g93 (i + 1) := v1.mv (fun k h1 h2 => hA93 k (by omega)) (fun k h1 h2 => hg93 k (by omega))
  have hq6 : q6 = A93 (i + 6) := hq6.trans (hA93 (i + 6) (by omega)).symm
  have f6 : g93 (i + 6) = aI E 10 (fun _ => 0) := (hg93 (i + 6) (by omega)).trans f6
  have hq7 : q7 = A93 (i + 7) := hq7.trans (hA93 (i + 7) (by omega)).symm
  have f7 : g93 (i + 7) = aI E 10 (fun _ => 0) := (hg93 (i + 7) (by omega)).trans f7
  have hq8 : q8 = A93 (i + 8) := hq8.trans (hA93 (i + 8) (by omega)).symm
  have f8 : g93 (i + 8) = aI E 10 (fun _ => 0) := (hg93 (i + 8) (by omega)).trans f8
  have hq9 : q9 = A93 (i + 9) := hq9.trans (hA93 (i + 9) (by omega)).symm
  have f9 : g93 (i + 9) = aR E 3 11 (fun _ => none) := (hg93 (i + 9) (by omega)).trans f9
  have hq10 : q10 = A93 (i + 10) := hq10.trans (hA93 (i + 10) (by omega)).symm
  have v10 : NatV E A93 g93 (i + 10) 0 := v10.mv (fun k h1 h2 => hA93 k (by omega)) (fun k h1 h2 => hg93 k (by omega))
  have hq12 : q12 = A93 (i + 12) := hq12.trans (hA93 (i + 12) (by omega)).symm
  have v12 : NatV E A93 g93 (i + 12) 0 := v12.mv (fun k h1 h2 => hA93 k (by omega)) (fun k h1 h2 => hg93 k (by omega))
  have hq14 : q14 = A93 (i + 14) := hq14.trans (hA93 (i + 14) (by omega)).symm
  have v14 : NatV E A93 g93 (i + 14) 0 := v14.mv (fun k h1 h2 => hA93 k (by omega)) (fun k h1 h2 => hg93 k (by omega))
  have hq16 : q16 = A93 (i + 16) := hq16.trans (hA93 (i + 16) (by omega)).symm
  have v16 : NatV E A93 g93 (i + 16) 0 := v16.mv (fun k h1 h2 => hA93 k (by omega)) (fun k h1 h2 => hg93 k (by omega))
  have hW : wH E (wF A (i + 1) sz) A93 (i + 19) s_ g93 H locs := hW
  refine W.widen (k := 18) (n := 103) (Nat.le_of_ble_eq_true rfl) (Nat.le_of_ble_eq_true rfl) ?_
  refine lv_dup X.1 X.2.1 dX2_init_96 rfl ?_
  refine x_cIN X hW hO hq18 (c_X5_init l E A93 (i + 19) H.size g93 (i + 18) rfl f18) gX2_init_X5_init_n34 rfl rfl rfl (by decide) w_18 w_20 rfl (by decide +kernel) ⟨(Nat.le_of_ble_eq_true rfl), (Nat.le_of_ble_eq_true rfl)⟩ hl.1 (Nat.le_of_ble_eq_true rfl) dX2_init_97 ⟨(Nat.le_of_ble_eq_true rfl), (Nat.le_of_ble_eq_true rfl)⟩ (fun A97 g97 H locs hp97 hW => ?_)
  obtain ⟨hA97, hg97, v18⟩ := hp97
  have ha : a0 = A97 i := ha.trans (hA97 (i) (by omega)).symm
  have hAA : ∀ k, k < i + 1 → A97 k = A k := fun k hk => (hA97 k (by omega)).trans (hAA k hk)
  have hGG : ∀ k, k < i → g97 k = g k := fun k hk => (hg97 k (by omega)).trans (hGG k hk)
  have ho : g97 i = .inr (2, [.ref q1, .ref q6, .ref q7, .ref q8, .ref q9, .ref q10, .ref q12, .ref q14, .ref q16, .null]) := (hg97 (i) (by omega)).trans ho
  have hq1 : q1 = A97 (i + 1) := hq1.trans (hA97 (i + 1) (by omega)).symm
  have v1 : CrB E A97 g97 (i + 1) := v1.mv (fun k h1 h2 => hA97 k (by omega)) (fun k h1 h2 => hg97 k (by omega))
  have hq6 : q6 = A97 (i + 6) := hq6.trans (hA97 (i + 6) (by omega)).symm
  have f6 : g97 (i + 6) = aI E 10 (fun _ => 0) := (hg97 (i + 6) (by omega)).trans f6
  have hq7 : q7 = A97 (i + 7) := hq7.trans (hA97 (i + 7) (by omega)).symm
  have f7 : g97 (i + 7) = aI E 10 (fun _ => 0) := (hg97 (i + 7) (by omega)).trans f7
  have hq8 : q8 = A97 (i + 8) := hq8.trans (hA97 (i + 8) (by omega)).symm
  have f8 : g97 (i + 8) = aI E 10 (fun _ => 0) := (hg97 (i + 8) (by omega)).trans f8
  have hq9 : q9 = A97 (i + 9) := hq9.trans (hA97 (i + 9) (by omega)).symm
  have f9 : g97 (i + 9) = aR E 3 11 (fun _ => none) := (hg97 (i + 9) (by omega)).trans f9
  have hq10 : q10 = A97 (i + 10) := hq10.trans (hA97 (i + 10) (by omega)).symm
  have v10 : NatV E A97 g97 (i + 10) 0 := v10.mv (fun k h1 h2 => hA97 k (by omega)) (fun k h1 h2 => hg97 k (by omega))
  have hq12 : q12 = A97 (i + 12) := hq12.trans (hA97 (i + 12) (by omega)).symm
  have v12 : NatV E A97 g97 (i + 12) 0 := v12.mv (fun k h1 h2 => hA97 k (by omega)) (fun k h1 h2 => hg97 k (by omega))
  have hq14 : q14 = A97 (i + 14) := hq14.trans (hA97 (i + 14) (by omega)).symm
  have v14 : NatV E A97 g97 (i + 14) 0 := v14.mv (fun k h1 h2 => hA97 k (by omega)) (fun k h1 h2 => hg97 k (by omega))
  have hq16 : q16 = A97 (i + 16) := hq16.trans (hA97 (i + 16) (by omega)).symm
  have v16 : NatV E A97 g97 (i + 16) 0 := v16.mv (fun k h1 h2 => hA97 k (by omega)) (fun k h1 h2 => hg97 k (by omega))
  have hq18 : q18 = A97 (i + 18) := hq18.trans (hA97 (i + 18) (by omega)).symm
  have hW : wH E (wF A (i + 1) sz) A97 (i + 20) s_ g97 H locs := hW
  refine W.widen (k := 19) (n := 109) (Nat.le_of_ble_eq_true rfl) (Nat.le_of_ble_eq_true rfl) ?_
  refine xc_putF X hnm hW (v := .ref q18) ha (by omega) ho rfl w_9 tyX2 tyX2_ok nmX2 9 (by decide) w_25 rfl rfl rfl rfl (by show 9 < 10; decide) dX2_init_100 (fun g100 H locs ho hg100 hW => ?_)
  have ho : g100 i = .inr (2, [.ref q1, .ref q6, .ref q7, .ref q8, .ref q9, .ref q10, .ref q12, .ref q14, .ref q16, .ref q18]) := ho
  have hGG : ∀ k, k < i → g100 k = g k := fun k hk => (hg100 k (by omega)).trans (hGG k hk)
  have v1 : CrB E A97 g100 (i + 1) := v1.mv (fun _ _ _ => rfl) (fun k h1 h2 => hg100 k (by omega))
  have f6 : g100 (i + 6) = aI E 10 (fun _ => 0) := (hg100 (i + 6) (by omega)).trans f6
  have f7 : g100 (i + 7) = aI E 10 (fun _ => 0) := (hg100 (i + 7) (by omega)).trans f7
  have f8 : g100 (i + 8) = aI E 10 (fun _ => 0) := (hg100 (i + 8) (by omega)).trans f8
  have f9 : g100 (i + 9) = aR E 3 11 (fun _ => none) := (hg100 (i + 9) (by omega)).trans f9
  have v10 : NatV E A97 g100 (i + 10) 0 := v10.mv (fun _ _ _ => rfl) (fun k h1 h2 => hg100 k (by omega))
  have v12 : NatV E A97 g100 (i + 12) 0 := v12.mv (fun _ _ _ => rfl) (fun k h1 h2 => hg100 k (by omega))
  have v14 : NatV E A97 g100 (i + 14) 0 := v14.mv (fun _ _ _ => rfl) (fun k h1 h2 => hg100 k (by omega))
  have v16 : NatV E A97 g100 (i + 16) 0 := v16.mv (fun _ _ _ => rfl) (fun k h1 h2 => hg100 k (by omega))
  have v18 : NatV E A97 g100 (i + 18) 0 := v18.mv (fun _ _ _ => rfl) (fun k h1 h2 => hg100 k (by omega))
  have hW : wH E (wF A (i + 1) sz) A97 (i + 20) s_ g100 H locs := hW
  refine x_iconst X dX2_init_103 ?_
  refine lv_istore_n (lv' := [(1, .int (iI (((0 : Nat) : Int)))), (0, .ref a0)]) X.1 X.2.1 dX2_init_104 rfl hl (by decide) rfl (fun ls hl => ?_)
  have loopa : ∀ Q : State → Prop, (∀ (A2 : Nat → Nat) (g2 : Nat → va_E) (H : Heap) (locs : List Loc) (ls : Array Slot), (∀ k, k < i + 20 → A2 k = A97 k) → (∀ k, k < i + 20 → k ≠ i + 9 → g2 k = g100 k) → (∃ f : Nat → Option Nat, g2 (i + 9) = aR E 3 11 f ∧ ∀ k, k < 11 → f k = some (A2 (i + 20 + 2 * k))) → (∀ k, k < 11 → NatV E A2 g2 (i + 20 + 2 * k) 0) → wH E (wF A (i + 1) sz) A2 (i + 20 + 2 * 11) s_ g2 H locs → lv_has ls 2 [(1, .int (iI (((11 : Nat) : Int)))), (0, .ref a0)] → W p_ l e_ ({ frames := 3, cells := 41, slots := 186, locals := 100 } : Room) s_ m_ args below meth c_ H locs (41) (186) Q (F0 m_ 133 ls [])) → ∀ (d j : Nat) (A1 : Nat → Nat) (g1 : Nat → va_E) (H : Heap) (locs : List Loc) (ls : Array Slot), j ≤ 11 → 11 + 1 ≤ j + d → (∀ k, k < i + 20 → A1 k = A97 k) → (∀ k, k < i + 20 → k ≠ i + 9 → g1 k = g100 k) → (∃ f : Nat → Option Nat, g1 (i + 9) = aR E 3 11 f ∧ ∀ k, k < j → f k = some (A1 (i + 20 + 2 * k))) → (∀ k, k < j → NatV E A1 g1 (i + 20 + 2 * k) 0) → wH E (wF A (i + 1) sz) A1 (i + 20 + 2 * j) s_ g1 H locs → lv_has ls 2 [(1, .int (iI (((j : Nat) : Int)))), (0, .ref a0)] → W p_ l e_ ({ frames := 3, cells := 41, slots := 186, locals := 100 } : Room) s_ m_ args below meth c_ H locs (19 + 2 * j) (109 + 7 * j) Q (F0 m_ 105 ls []) := by
    intro Q kont d
    induction d with
    | zero => intro j A1 g1 H locs ls h1 h2; exact absurd h2 (by omega)
    | succ d ih =>
      intro j A1 g1 H locs ls h1 h2 hA1 hg1 harr hvs hW hl
      obtain ⟨f, hf, hfk⟩ := harr
      have ha1 : a0 = A1 i := ha.trans (hA1 i (by omega)).symm
      have ho1 : g1 i = .inr (2, [.ref q1, .ref q6, .ref q7, .ref q8, .ref q9, .ref q10, .ref q12, .ref q14, .ref q16, .ref q18]) := (hg1 i (by omega) (by omega)).trans ho
      have hq1 : q9 = A1 (i + 9) := hq9.trans (hA1 (i + 9) (by omega)).symm
      refine lv_iload_n X.1 X.2.1 dX2_init_105 rfl (lv_at hl 0 rfl) ?_
      refine lv_aload_n X.1 X.2.1 dX2_init_106 rfl (lv_at hl 1 rfl) ?_
      refine xc_get X hW ha1 (by omega) ho1 rfl w_9 4 (by decide) w_16 rfl dX2_init_107 ?_
      rw [hq1]
      refine x_alen X hW (by omega) hf rfl dX2_init_110 ?_
      refine x_icmp_ge (tgt := 133) X (by unfold I32; omega) (by unfold I32; omega) dX2_init_111 (by decide) (fun b_ => ?_) (fun b_ => ?_)
      · obtain rfl : j = 11 := by omega
        exact kont A1 g1 H locs ls hA1 hg1 ⟨f, hf, hfk⟩ hvs hW hl
      · have hj : j < 11 := by omega
        refine lv_aload_n X.1 X.2.1 dX2_init_114 rfl (lv_at hl 1 rfl) ?_
        refine xc_get X hW ha1 (by omega) ho1 rfl w_9 4 (by decide) w_16 rfl dX2_init_115 ?_
        refine lv_iload_n X.1 X.2.1 dX2_init_118 rfl (lv_at hl 0 rfl) ?_
        refine x_new X hW (ci := 5) (fs := [.null]) rfl w_19 tyX5 tyX5_ok w_15 w_17 w_18 dfX5 (by show 19 + 2 * j + 1 ≤ 41; omega) (by show 109 + 7 * j + 1 ≤ 186; omega) dX2_init_119 (fun qn A3 g3 H hqn hA3 hg3 fn hW => ?_)
        refine lv_dup X.1 X.2.1 dX2_init_122 rfl ?_
        refine x_cIN X hW hO hqn (c_X5_init l E A3 (i + 20 + 2 * j + 1) H.size g3 (i + 20 + 2 * j) rfl fn) gX2_init_X5_init_n34 rfl rfl rfl (by decide) w_18 w_20 rfl (by decide +kernel) ⟨(Nat.le_of_ble_eq_true rfl), (Nat.le_of_ble_eq_true rfl)⟩ hl.1 (Nat.le_of_ble_eq_true rfl) dX2_init_123 ⟨by show 19 + 2 * j + 1 + 1 ≤ 41; omega, by show 109 + 7 * j + 1 + 6 ≤ 186; omega⟩ (fun A4 g4 H locs hp4 hW => ?_)
        obtain ⟨hA4, hg4, v4⟩ := hp4
        have hqn4 : qn = A4 (i + 20 + 2 * j) := hqn.trans (hA4 _ (by omega)).symm
        have hA5 : ∀ k, k < i + 20 + 2 * j → A4 k = A1 k := fun k hk => (hA4 k (by omega)).trans (hA3 k hk)
        have hg5 : ∀ k, k < i + 20 + 2 * j → g4 k = g1 k := fun k hk => (hg4 k hk).trans (hg3 k hk)
        have hq4 : q9 = A4 (i + 9) := hq1.trans (hA5 _ (by omega)).symm
        have hf4 : g4 (i + 9) = aR E 3 11 f := (hg5 _ (by omega)).trans hf
        rw [hqn4, hq4]
        refine x_aast X hW (r := (RX5, TX5, 1)) (by omega) hf4 rfl (by omega) v4.2.1 rfl j rfl hj (by omega) dX2_init_126 (fun g5 H locs e5 hW => ?_)
        refine lv_iinc (v := iI ((((j + 1 : Nat)) : Int))) (lv' := [(1, .int (iI ((((j + 1 : Nat)) : Int)))), (0, .ref a0)]) X.1 X.2.1 dX2_init_127 hl (k := 0) rfl (by rw [show (Int32.ofInt (1)) = iI (1) from rfl, iI_add]; first | rfl | (congr 1; omega)) (by decide) rfl (fun ls hl => ?_)
        refine lv_goto (tgt := 105) X.1 X.2.1 dX2_init_130 (by decide) ?_
        refine W.widen (k := 19 + 2 * (j + 1)) (n := 109 + 7 * (j + 1)) (by omega) (by omega) ?_
        have hne : ∀ k, k ≠ i + 9 → g5 k = g4 k := fun k hk => by rw [e5]; exact va_up_ne _ _ hk
        refine ih (j + 1) A4 g5 H locs ls (by omega) (by omega) (fun k hk => (hA5 k (by omega)).trans (hA1 k hk)) (fun k hk h3 => (hne k h3).trans ((hg5 k (by omega)).trans (hg1 k hk h3))) ⟨_, by rw [e5]; exact va_up_self _ _ _, fun k hk => ?_⟩ (fun k hk => ?_) (by rw [show i + 20 + 2 * (j + 1) = i + 20 + 2 * j + 1 + 1 from by omega]; exact hW) hl
        · by_cases hkj : k = j
          · rw [hkj]; exact va_up_self _ _ _
          · rw [va_up_ne _ _ hkj, hfk k (by omega), hA5 _ (by omega)]
        · by_cases hkj : k = j
          · rw [hkj]; exact v4.mv (fun _ _ _ => rfl) (fun k h1 h2 => hne k (by omega))
          · exact (hvs k (by omega)).mv (fun k h1 h2 => hA5 k (by omega)) (fun k h1 h2 => (hne k (by omega)).trans (hg5 k (by omega)))
  refine loopa _ (fun Aea gea H locs ls hAea hgea hara hvsa hW hl => ?_) (11 + 1) 0 _ _ H locs ls (by omega) (by omega) (fun _ _ => rfl) (fun _ _ _ => rfl) ⟨_, f9, fun k hk => absurd hk (by omega)⟩ (fun k hk => absurd hk (by omega)) hW hl
  have ha : a0 = Aea i := ha.trans (hAea (i) (by omega)).symm
  have hAA : ∀ k, k < i + 1 → Aea k = A k := fun k hk => (hAea k (by omega)).trans (hAA k hk)
  have hGG : ∀ k, k < i → gea k = g k := fun k hk => (hgea k (by omega) (by omega)).trans (hGG k hk)
  have ho : gea i = .inr (2, [.ref q1, .ref q6, .ref q7, .ref q8, .ref q9, .ref q10, .ref q12, .ref q14, .ref q16, .ref q18]) := (hgea (i) (by omega) (by omega)).trans ho
  have hq1 : q1 = Aea (i + 1) := hq1.trans (hAea (i + 1) (by omega)).symm
  have v1 : CrB E Aea gea (i + 1) := v1.mv (fun k h1 h2 => hAea k (by omega)) (fun k h1 h2 => hgea k (by omega) (by omega))
  have hq6 : q6 = Aea (i + 6) := hq6.trans (hAea (i + 6) (by omega)).symm
  have f6 : gea (i + 6) = aI E 10 (fun _ => 0) := (hgea (i + 6) (by omega) (by omega)).trans f6
  have hq7 : q7 = Aea (i + 7) := hq7.trans (hAea (i + 7) (by omega)).symm
  have f7 : gea (i + 7) = aI E 10 (fun _ => 0) := (hgea (i + 7) (by omega) (by omega)).trans f7
  have hq8 : q8 = Aea (i + 8) := hq8.trans (hAea (i + 8) (by omega)).symm
  have f8 : gea (i + 8) = aI E 10 (fun _ => 0) := (hgea (i + 8) (by omega) (by omega)).trans f8
  have hq9 : q9 = Aea (i + 9) := hq9.trans (hAea (i + 9) (by omega)).symm
  have hq10 : q10 = Aea (i + 10) := hq10.trans (hAea (i + 10) (by omega)).symm
  have v10 : NatV E Aea gea (i + 10) 0 := v10.mv (fun k h1 h2 => hAea k (by omega)) (fun k h1 h2 => hgea k (by omega) (by omega))
  have hq12 : q12 = Aea (i + 12) := hq12.trans (hAea (i + 12) (by omega)).symm
  have v12 : NatV E Aea gea (i + 12) 0 := v12.mv (fun k h1 h2 => hAea k (by omega)) (fun k h1 h2 => hgea k (by omega) (by omega))
  have hq14 : q14 = Aea (i + 14) := hq14.trans (hAea (i + 14) (by omega)).symm
  have v14 : NatV E Aea gea (i + 14) 0 := v14.mv (fun k h1 h2 => hAea k (by omega)) (fun k h1 h2 => hgea k (by omega) (by omega))
  have hq16 : q16 = Aea (i + 16) := hq16.trans (hAea (i + 16) (by omega)).symm
  have v16 : NatV E Aea gea (i + 16) 0 := v16.mv (fun k h1 h2 => hAea k (by omega)) (fun k h1 h2 => hgea k (by omega) (by omega))
  have hq18 : q18 = Aea (i + 18) := hq18.trans (hAea (i + 18) (by omega)).symm
  have v18 : NatV E Aea gea (i + 18) 0 := v18.mv (fun k h1 h2 => hAea k (by omega)) (fun k h1 h2 => hgea k (by omega) (by omega))
  have hW : wH E (wF A (i + 1) sz) Aea (i + 42) s_ gea H locs := hW
  refine x_vretC X hr hlk hW (Nat.le_of_ble_eq_true rfl) (Nat.le_of_ble_eq_true rfl) ⟨hAA, hGG, ?_⟩ dX2_init_133
  rw [hq1, hq6, hq7, hq8, hq9, hq10, hq12, hq14, hq16, hq18] at ho
  obtain ⟨fy, h2, h3⟩ := hara
  exact ⟨ho, v1, ⟨f6, f7, f8⟩, ⟨fy, h2, h3⟩, ⟨v10.any, v12.any, v14.any, v16.any, v18.any⟩, fun k hk => (hvsa k hk).any⟩
