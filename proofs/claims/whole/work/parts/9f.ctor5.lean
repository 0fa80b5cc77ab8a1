def ClsB (E : wE) (A : Nat → Nat) (g : Nat → va_E) (i : Nat) : Prop := g i = kO A i 0 ∧ ((∃ f : Nat → Option Nat, g (i + 1) = aR E 4 10 f ∧ ∀ k, k < 10 → f k = some (A (i + 142 + 2 * k))) ∧ ∀ k, k < 10 → RowV E A g (i + 142 + 2 * k) 0 (-1) (fun _ => 0)) ∧ ((∃ f : Nat → Option Nat, g (i + 2) = aR E 2 16 f ∧ ∀ k, k < 16 → f k = some (A (i + 162 + 3 * k))) ∧ ∀ k, k < 16 → BookC E A g (i + 162 + 3 * k) 0 (fun _ => 0) (fun _ => 0) 0) ∧ ResV E A g (i + 3) 0 1 ∧ ComB E A g (i + 12) ∧ PasV E A g (i + 54) (pr ppV 17) ∧ RkV E A g (i + 65) (fun _ => 0) ∧ HapV E A g (i + 114) 0 (fun _ => 0) (fun _ => 0) ∧ BoxB E A g (i + 123)
theorem ClsB.mv {E : wE} {A A' : Nat → Nat} {g g' : Nat → va_E} {i : Nat}  (h : ClsB E A g i ) (hA : ∀ k, i ≤ k → k ≤ i + 209 → A' k = A k) (hg : ∀ k, i ≤ k → k ≤ i + 209 → g' k = g k) : ClsB E A' g' i  := by
  obtain ⟨a0, ⟨⟨f, f1, f2⟩, r1⟩, ⟨⟨h, h1, h2⟩, b1⟩, v3, v12, v54, v65, v114, v123⟩ := h
  refine ⟨?_, ⟨⟨f, (hg _ (by omega) (by omega)).trans f1, fun k hk => by rw [f2 k hk, hA _ (by omega) (by omega)]⟩, fun k hk => (r1 k hk).mv (fun k h1 h2 => hA k (by omega) (by omega)) (fun k h1 h2 => hg k (by omega) (by omega))⟩, ⟨⟨h, (hg _ (by omega) (by omega)).trans h1, fun k hk => by rw [h2 k hk, hA _ (by omega) (by omega)]⟩, fun k hk => (b1 k hk).mv (fun k h1 h2 => hA k (by omega) (by omega)) (fun k h1 h2 => hg k (by omega) (by omega))⟩, v3.mv (fun k h1 h2 => hA k (by omega) (by omega)) (fun k h1 h2 => hg k (by omega) (by omega)), v12.mv (fun k h1 h2 => hA k (by omega) (by omega)) (fun k h1 h2 => hg k (by omega) (by omega)), v54.mv (fun k h1 h2 => hA k (by omega) (by omega)) (fun k h1 h2 => hg k (by omega) (by omega)), v65.mv (fun k h1 h2 => hA k (by omega) (by omega)) (fun k h1 h2 => hg k (by omega) (by omega)), v114.mv (fun k h1 h2 => hA k (by omega) (by omega)) (fun k h1 h2 => hg k (by omega) (by omega)), v123.mv (fun k h1 h2 => hA k (by omega) (by omega)) (fun k h1 h2 => hg k (by omega) (by omega))⟩
  rw [hg i (by omega) (by omega), a0]
  unfold kO
  rw [hA (i + 1) (by omega) (by omega), hA (i + 2) (by omega) (by omega), hA (i + 3) (by omega) (by omega), hA (i + 12) (by omega) (by omega), hA (i + 54) (by omega) (by omega), hA (i + 65) (by omega) (by omega), hA (i + 114) (by omega) (by omega), hA (i + 123) (by omega) (by omega)]
set_option maxHeartbeats 4000000 in
set_option maxRecDepth 100000 in
theorem c_X10_init (l : Launch) (E : wE) (A : Nat → Nat) (n sz : Nat) (g : Nat → va_E) (i : Nat) (hn : n = i + 1) (hg : g i = .inr (10, [.null, .null, .int 0, .null, .null, .null, .null, .null, .null])) : Met l yX10_init wsX10_init ({ frames := 4, cells := 209, slots := 1433, locals := 200 } : Room) (va_Pc [.ref (A i)] (wPreC E A n sz g)) (va_Qv (fun u : (Nat → Nat) × (Nat → va_E) => (∀ k, k < n → u.1 k = A k) ∧ (∀ k, k < i → u.2 k = g k) ∧ ClsB E u.1 u.2 i) (wAtC E (wF A n sz) (n + 209)) (wF A n sz)) 209 1433 (wF A n sz) := by
  subst hn
  refine x_metC (cc := cX10_init) (maxL := 2) (ret := none) [.ref (A i)] (by decide) rfl (Nat.le_of_ble_eq_true rfl) ?_
  intro p_ e_ s_ m_ args below meth c_ ls X hr hlk hnm hsz hW hO hl
  obtain ⟨a0, ha⟩ : ∃ a0, a0 = A i := ⟨_, rfl⟩
  have hl : lv_has ls 2 [(0, .ref a0)] := by rw [ha]; exact hl
  generalize ([] : List Loc) = locs at hW ⊢
  have w_0 : Cond.methodLink RX10 3 objectInit ∈ wsX10_init := by decide +kernel
  have w_1 : Cond.instanceMethod objectInit ∈ wsX10_init := by decide +kernel
  have w_2 : Cond.code objectInit ⟨#[0xb1]⟩ 1 none ∈ wsX10_init := List.mem_of_getElem? (i := 3) rfl
  have w_3 : Cond.classLink RX10 9 RX9 ∈ wsX10_init := by decide +kernel
  have w_4 : ∀ w ∈ u_ws RX10 TX10 9, w ∈ wsX10_init := by decide +kernel
  have w_5 : Cond.fieldLink RX10 11 (TX10 0).1 (TX10 0).2.1 (TX10 0).2.2.1 ∈ wsX10_init := by decide +kernel
  have w_6 : Cond.classLink RX10 15 RX0 ∈ wsX10_init := by decide +kernel
  have w_7 : Cond.fieldLink RX10 17 (TX10 1).1 (TX10 1).2.1 (TX10 1).2.2.1 ∈ wsX10_init := by decide +kernel
  have w_8 : Cond.fieldLink RX10 21 (TX10 2).1 (TX10 2).2.1 (TX10 2).2.2.1 ∈ wsX10_init := by decide +kernel
  have w_9 : Cond.classLink RX10 25 RX8 ∈ wsX10_init := by decide +kernel
  have w_10 : Cond.instantiable RX8 5 ∈ wsX10_init := by decide +kernel
  have w_11 : Cond.initialized RX8 ∈ wsX10_init := by decide +kernel
  have w_12 : ∀ w ∈ u_ws RX8 TX8 5, w ∈ wsX10_init := by decide +kernel
  have w_13 : Cond.methodLink RX10 27 yX8_init ∈ wsX10_init := by decide +kernel
  have w_14 : Cond.instanceMethod yX8_init ∈ wsX10_init := by decide +kernel
  have w_15 : Cond.fieldLink RX10 28 (TX10 3).1 (TX10 3).2.1 (TX10 3).2.2.1 ∈ wsX10_init := by decide +kernel
  have w_16 : Cond.classLink RX10 32 RX2 ∈ wsX10_init := by decide +kernel
  have w_17 : Cond.instantiable RX2 10 ∈ wsX10_init := by decide +kernel
  have w_18 : Cond.initialized RX2 ∈ wsX10_init := by decide +kernel
  have w_19 : ∀ w ∈ u_ws RX2 TX2 10, w ∈ wsX10_init := by decide +kernel
  have w_20 : Cond.methodLink RX10 34 yX2_init ∈ wsX10_init := by decide +kernel
  have w_21 : Cond.instanceMethod yX2_init ∈ wsX10_init := by decide +kernel
  have w_22 : Cond.fieldLink RX10 35 (TX10 4).1 (TX10 4).2.1 (TX10 4).2.2.1 ∈ wsX10_init := by decide +kernel
  have w_23 : Cond.classLink RX10 39 RX6 ∈ wsX10_init := by decide +kernel
  have w_24 : Cond.instantiable RX6 5 ∈ wsX10_init := by decide +kernel
  have w_25 : Cond.initialized RX6 ∈ wsX10_init := by decide +kernel
  have w_26 : ∀ w ∈ u_ws RX6 TX6 5, w ∈ wsX10_init := by decide +kernel
  have w_27 : Cond.methodLink RX10 41 yX6_init ∈ wsX10_init := by decide +kernel
  have w_28 : Cond.instanceMethod yX6_init ∈ wsX10_init := by decide +kernel
  have w_29 : Cond.fieldLink RX10 42 (TX10 5).1 (TX10 5).2.1 (TX10 5).2.2.1 ∈ wsX10_init := by decide +kernel
  have w_30 : Cond.classLink RX10 46 RX7 ∈ wsX10_init := by decide +kernel
  have w_31 : Cond.instantiable RX7 4 ∈ wsX10_init := by decide +kernel
  have w_32 : Cond.initialized RX7 ∈ wsX10_init := by decide +kernel
  have w_33 : ∀ w ∈ u_ws RX7 TX7 4, w ∈ wsX10_init := by decide +kernel
  have w_34 : Cond.methodLink RX10 48 yX7_init ∈ wsX10_init := by decide +kernel
  have w_35 : Cond.instanceMethod yX7_init ∈ wsX10_init := by decide +kernel
  have w_36 : Cond.fieldLink RX10 49 (TX10 6).1 (TX10 6).2.1 (TX10 6).2.2.1 ∈ wsX10_init := by decide +kernel
  have w_37 : Cond.classLink RX10 53 RX4 ∈ wsX10_init := by decide +kernel
  have w_38 : Cond.instantiable RX4 6 ∈ wsX10_init := by decide +kernel
  have w_39 : Cond.initialized RX4 ∈ wsX10_init := by decide +kernel
  have w_40 : ∀ w ∈ u_ws RX4 TX4 6, w ∈ wsX10_init := by decide +kernel
  have w_41 : Cond.instanceMethod yX4_init ∈ wsX10_init := by decide +kernel
  have w_42 : Cond.fieldLink RX10 56 (TX10 7).1 (TX10 7).2.1 (TX10 7).2.2.1 ∈ wsX10_init := by decide +kernel
  have w_43 : Cond.classLink RX10 60 RX1 ∈ wsX10_init := by decide +kernel
  have w_44 : Cond.instantiable RX1 8 ∈ wsX10_init := by decide +kernel
  have w_45 : Cond.initialized RX1 ∈ wsX10_init := by decide +kernel
  have w_46 : ∀ w ∈ u_ws RX1 TX1 8, w ∈ wsX10_init := by decide +kernel
  have w_47 : Cond.instanceMethod yX1_init ∈ wsX10_init := by decide +kernel
  have w_48 : Cond.fieldLink RX10 63 (TX10 8).1 (TX10 8).2.1 (TX10 8).2.2.1 ∈ wsX10_init := by decide +kernel
  have w_49 : Cond.instantiable RX9 3 ∈ wsX10_init := by decide +kernel
  have w_50 : Cond.initialized RX9 ∈ wsX10_init := by decide +kernel
  have w_51 : ∀ w ∈ u_ws RX9 TX9 3, w ∈ wsX10_init := by decide +kernel
  have w_52 : Cond.instanceMethod yX9_init ∈ wsX10_init := by decide +kernel
  have w_53 : Cond.instantiable RX0 4 ∈ wsX10_init := by decide +kernel
  have w_54 : Cond.initialized RX0 ∈ wsX10_init := by decide +kernel
  have w_55 : ∀ w ∈ u_ws RX0 TX0 4, w ∈ wsX10_init := by decide +kernel
  have w_56 : Cond.instanceMethod yX0_init ∈ wsX10_init := by decide +kernel
  have hAA : ∀ k, k < i + 1 → A k = A k := fun _ _ => rfl
  have hGG : ∀ k, k < i → g k = g k := fun _ _ => rfl
  have ho : g i = .inr (10, [.null, .null, .int 0, .null, .null, .null, .null, .null, .null]) := hg
  refine lv_aload_n X.1 X.2.1 dX10_init_0 rfl (lv_at hl 0 rfl) ?_
  refine x_objInit X w_0 w_1 w_2 hl.1 (Nat.le_of_ble_eq_true rfl) (Nat.le_of_ble_eq_true rfl) dX10_init_1 ?_
  refine lv_aload_n X.1 X.2.1 dX10_init_4 rfl (lv_at hl 0 rfl) ?_
  refine x_bipush X (by decide) dX10_init_5 ?_
  refine x_newR X hW (t := 4) rfl w_3 hO.2.2 10 (by decide +kernel) (by decide +kernel) (by decide) (Nat.le_of_ble_eq_true rfl) (Nat.le_of_ble_eq_true rfl) dX10_init_7 (fun q1 A7 g7 H hq1 hA7 hg7 f1 hW => ?_)
  have ha : a0 = A7 i := ha.trans (hA7 (i) (by omega)).symm
  have hAA : ∀ k, k < i + 1 → A7 k = A k := fun k hk => (hA7 k (by omega)).trans (hAA k hk)
  have hGG : ∀ k, k < i → g7 k = g k := fun k hk => (hg7 k (by omega)).trans (hGG k hk)
  have ho : g7 i = .inr (10, [.null, .null, .int 0, .null, .null, .null, .null, .null, .null]) := (hg7 (i) (by omega)).trans ho
  have hW : wH E (wF A (i + 1) sz) A7 (i + 2) s_ g7 H locs := hW
  refine W.widen (k := 1) (n := 10) (Nat.le_of_ble_eq_true rfl) (Nat.le_of_ble_eq_true rfl) ?_
  refine xc_putF X hnm hW (v := .ref q1) ha (by omega) ho rfl w_4 tyX10 tyX10_ok nmX10 0 (by decide) w_5 rfl rfl rfl rfl (by show 0 < 9; decide) dX10_init_10 (fun g10 H locs ho hg10 hW => ?_)
  have ho : g10 i = .inr (10, [.ref q1, .null, .int 0, .null, .null, .null, .null, .null, .null]) := ho
  have hGG : ∀ k, k < i → g10 k = g k := fun k hk => (hg10 k (by omega)).trans (hGG k hk)
  have f1 : g10 (i + 1) = aR E 4 10 (fun _ => none) := (hg10 (i + 1) (by omega)).trans f1
  have hW : wH E (wF A (i + 1) sz) A7 (i + 2) s_ g10 H locs := hW
  refine lv_aload_n X.1 X.2.1 dX10_init_13 rfl (lv_at hl 0 rfl) ?_
  refine x_bipush X (by decide) dX10_init_14 ?_
  refine x_newR X hW (t := 2) rfl w_6 hO.1 16 (by decide +kernel) (by decide +kernel) (by decide) (Nat.le_of_ble_eq_true rfl) (Nat.le_of_ble_eq_true rfl) dX10_init_16 (fun q2 A16 g16 H hq2 hA16 hg16 f2 hW => ?_)
  have ha : a0 = A16 i := ha.trans (hA16 (i) (by omega)).symm
  have hAA : ∀ k, k < i + 1 → A16 k = A k := fun k hk => (hA16 k (by omega)).trans (hAA k hk)
  have hGG : ∀ k, k < i → g16 k = g k := fun k hk => (hg16 k (by omega)).trans (hGG k hk)
  have ho : g16 i = .inr (10, [.ref q1, .null, .int 0, .null, .null, .null, .null, .null, .null]) := (hg16 (i) (by omega)).trans ho
  have hq1 : q1 = A16 (i + 1) := hq1.trans (hA16 (i + 1) (by omega)).symm
  have f1 : g16 (i + 1) = aR E 4 10 (fun _ => none) := (hg16 (i + 1) (by omega)).trans f1
  have hW : wH E (wF A (i + 1) sz) A16 (i + 3) s_ g16 H locs := hW
  refine W.widen (k := 2) (n := 26) (Nat.le_of_ble_eq_true rfl) (Nat.le_of_ble_eq_true rfl) ?_
  refine xc_putF X hnm hW (v := .ref q2) ha (by omega) ho rfl w_4 tyX10 tyX10_ok nmX10 1 (by decide) w_7 rfl rfl rfl rfl (by show 1 < 9; decide) dX10_init_19 (fun g19 H locs ho hg19 hW => ?_)
  have ho : g19 i = .inr (10, [.ref q1, .ref q2, .int 0, .null, .null, .null, .null, .null, .null]) := ho
  have hGG : ∀ k, k < i → g19 k = g k := fun k hk => (hg19 k (by omega)).trans (hGG k hk)
  have f1 : g19 (i + 1) = aR E 4 10 (fun _ => none) := (hg19 (i + 1) (by omega)).trans f1
  have f2 : g19 (i + 2) = aR E 2 16 (fun _ => none) := (hg19 (i + 2) (by omega)).trans f2
  have hW : wH E (wF A (i + 1) sz) A16 (i + 3) s_ g19 H locs := hW
  refine lv_aload_n X.1 X.2.1 dX10_init_22 rfl (lv_at hl 0 rfl) ?_
  refine x_iconst X dX10_init_23 ?_
  refine xc_put X hW (v := .int (iI (0))) ha (by omega) ho rfl w_4 tyX10 tyX10_ok nmX10 2 (by decide) w_8 rfl rfl rfl (by show 2 < 9; decide) dX10_init_24 (fun g24 H locs ho hg24 hW => ?_)
  have ho : g24 i = .inr (10, [.ref q1, .ref q2, .int (iI (0)), .null, .null, .null, .null, .null, .null]) := ho
  have hGG : ∀ k, k < i → g24 k = g k := fun k hk => (hg24 k (by omega)).trans (hGG k hk)
  have f1 : g24 (i + 1) = aR E 4 10 (fun _ => none) := (hg24 (i + 1) (by omega)).trans f1
  have f2 : g24 (i + 2) = aR E 2 16 (fun _ => none) := (hg24 (i + 2) (by omega)).trans f2
  have hW : wH E (wF A (i + 1) sz) A16 (i + 3) s_ g24 H locs := hW
  refine lv_aload_n X.1 X.2.1 dX10_init_27 rfl (lv_at hl 0 rfl) ?_
  refine x_new X hW (ci := 8) (fs := [.null, .null, .null, .null, .int 0]) rfl w_12 tyX8 tyX8_ok w_9 w_10 w_11 dfX8 (Nat.le_of_ble_eq_true rfl) (Nat.le_of_ble_eq_true rfl) dX10_init_28 (fun q3 A28 g28 H hq3 hA28 hg28 f3 hW => ?_)
  have ha : a0 = A28 i := ha.trans (hA28 (i) (by omega)).symm
  have hAA : ∀ k, k < i + 1 → A28 k = A k := fun k hk => (hA28 k (by omega)).trans (hAA k hk)
  have hGG : ∀ k, k < i → g28 k = g k := fun k hk => (hg28 k (by omega)).trans (hGG k hk)
  have ho : g28 i = .inr (10, [.ref q1, .ref q2, .int (iI (0)), .null, .null, .null, .null, .null, .null]) := (hg28 (i) (by omega)).trans ho
  have hq1 : q1 = A28 (i + 1) := hq1.trans (hA28 (i + 1) (by omega)).symm
  have f1 : g28 (i + 1) = aR E 4 10 (fun _ => none) := (hg28 (i + 1) (by omega)).trans f1
  have hq2 : q2 = A28 (i + 2) := hq2.trans (hA28 (i + 2) (by omega)).symm
  have f2 : g28 (i + 2) = aR E 2 16 (fun _ => none) := (hg28 (i + 2) (by omega)).trans f2
  have hW : wH E (wF A (i + 1) sz) A28 (i + 4) s_ g28 H locs := hW
  refine W.widen (k := 3) (n := 31) (Nat.le_of_ble_eq_true rfl) (Nat.le_of_ble_eq_true rfl) ?_
  refine lv_dup X.1 X.2.1 dX10_init_31 rfl ?_
  refine x_cI X hW hO hq3 (c_X8_init l E A28 (i + 4) H.size g28 (i + 3) rfl f3) gX10_init_X8_init rfl rfl rfl w_11 w_13 w_14 rfl (by decide +kernel) ⟨(Nat.le_of_ble_eq_true rfl), (Nat.le_of_ble_eq_true rfl)⟩ hl.1 (Nat.le_of_ble_eq_true rfl) dX10_init_32 ⟨(Nat.le_of_ble_eq_true rfl), (Nat.le_of_ble_eq_true rfl)⟩ (fun A32 g32 H locs hp32 hW => ?_)
  obtain ⟨hA32, hg32, v3⟩ := hp32
  have ha : a0 = A32 i := ha.trans (hA32 (i) (by omega)).symm
  have hAA : ∀ k, k < i + 1 → A32 k = A k := fun k hk => (hA32 k (by omega)).trans (hAA k hk)
  have hGG : ∀ k, k < i → g32 k = g k := fun k hk => (hg32 k (by omega)).trans (hGG k hk)
  have ho : g32 i = .inr (10, [.ref q1, .ref q2, .int (iI (0)), .null, .null, .null, .null, .null, .null]) := (hg32 (i) (by omega)).trans ho
  have hq1 : q1 = A32 (i + 1) := hq1.trans (hA32 (i + 1) (by omega)).symm
  have f1 : g32 (i + 1) = aR E 4 10 (fun _ => none) := (hg32 (i + 1) (by omega)).trans f1
  have hq2 : q2 = A32 (i + 2) := hq2.trans (hA32 (i + 2) (by omega)).symm
  have f2 : g32 (i + 2) = aR E 2 16 (fun _ => none) := (hg32 (i + 2) (by omega)).trans f2
  have hq3 : q3 = A32 (i + 3) := hq3.trans (hA32 (i + 3) (by omega)).symm
  have hW : wH E (wF A (i + 1) sz) A32 (i + 12) s_ g32 H locs := hW
  refine W.widen (k := 11) (n := 59) (Nat.le_of_ble_eq_true rfl) (Nat.le_of_ble_eq_true rfl) ?_
  refine xc_putF X hnm hW (v := .ref q3) ha (by omega) ho rfl w_4 tyX10 tyX10_ok nmX10 3 (by decide) w_15 rfl rfl rfl rfl (by show 3 < 9; decide) dX10_init_35 (fun g35 H locs ho hg35 hW => ?_)
  have ho : g35 i = .inr (10, [.ref q1, .ref q2, .int (iI (0)), .ref q3, .null, .null, .null, .null, .null]) := ho
  have hGG : ∀ k, k < i → g35 k = g k := fun k hk => (hg35 k (by omega)).trans (hGG k hk)
  have f1 : g35 (i + 1) = aR E 4 10 (fun _ => none) := (hg35 (i + 1) (by omega)).trans f1
  have f2 : g35 (i + 2) = aR E 2 16 (fun _ => none) := (hg35 (i + 2) (by omega)).trans f2
  have v3 : ResV E A32 g35 (i + 3) 0 1 := v3.mv (fun _ _ _ => rfl) (fun k h1 h2 => hg35 k (by omega))
  have hW : wH E (wF A (i + 1) sz) A32 (i + 12) s_ g35 H locs := hW
  refine lv_aload_n X.1 X.2.1 dX10_init_38 rfl (lv_at hl 0 rfl) ?_
  refine x_new X hW (ci := 2) (fs := [.null, .null, .null, .null, .null, .null, .null, .null, .null, .null]) rfl w_19 tyX2 tyX2_ok w_16 w_17 w_18 dfX2 (Nat.le_of_ble_eq_true rfl) (Nat.le_of_ble_eq_true rfl) dX10_init_39 (fun q12 A39 g39 H hq12 hA39 hg39 f12 hW => ?_)
  have ha : a0 = A39 i := ha.trans (hA39 (i) (by omega)).symm
  have hAA : ∀ k, k < i + 1 → A39 k = A k := fun k hk => (hA39 k (by omega)).trans (hAA k hk)
  have hGG : ∀ k, k < i → g39 k = g k := fun k hk => (hg39 k (by omega)).trans (hGG k hk)
  have ho : g39 i = .inr (10, [.ref q1, .ref q2, .int (iI (0)), .ref q3, .null, .null, .null, .null, .null]) := (hg39 (i) (by omega)).trans ho
  have hq1 : q1 = A39 (i + 1) := hq1.trans (hA39 (i + 1) (by omega)).symm
  have f1 : g39 (i + 1) = aR E 4 10 (fun _ => none) := (hg39 (i + 1) (by omega)).trans f1
  have hq2 : q2 = A39 (i + 2) := hq2.trans (hA39 (i + 2) (by omega)).symm
  have f2 : g39 (i + 2) = aR E 2 16 (fun _ => none) := (hg39 (i + 2) (by omega)).trans f2
  have hq3 : q3 = A39 (i + 3) := hq3.trans (hA39 (i + 3) (by omega)).symm
  have v3 : ResV E A39 g39 (i + 3) 0 1 := v3.mv (fun k h1 h2 => hA39 k (by omega)) (fun k h1 h2 => hg39 k (by omega))
  have hW : wH E (wF A (i + 1) sz) A39 (i + 13) s_ g39 H locs := hW
  refine W.widen (k := 12) (n := 69) (Nat.le_of_ble_eq_true rfl) (Nat.le_of_ble_eq_true rfl) ?_
  refine lv_dup X.1 X.2.1 dX10_init_42 rfl ?_
  refine x_cI X hW hO hq12 (c_X2_init l E A39 (i + 13) H.size g39 (i + 12) rfl f12) gX10_init_X2_init rfl rfl rfl w_18 w_20 w_21 rfl (by decide +kernel) ⟨(Nat.le_of_ble_eq_true rfl), (Nat.le_of_ble_eq_true rfl)⟩ hl.1 (Nat.le_of_ble_eq_true rfl) dX10_init_43 ⟨(Nat.le_of_ble_eq_true rfl), (Nat.le_of_ble_eq_true rfl)⟩ (fun A43 g43 H locs hp43 hW => ?_)
  obtain ⟨hA43, hg43, v12⟩ := hp43
  have ha : a0 = A43 i := ha.trans (hA43 (i) (by omega)).symm
  have hAA : ∀ k, k < i + 1 → A43 k = A k := fun k hk => (hA43 k (by omega)).trans (hAA k hk)
  have hGG : ∀ k, k < i → g43 k = g k := fun k hk => (hg43 k (by omega)).trans (hGG k hk)
  have ho : g43 i = .inr (10, [.ref q1, .ref q2, .int (iI (0)), .ref q3, .null, .null, .null, .null, .null]) := (hg43 (i) (by omega)).trans ho
  have hq1 : q1 = A43 (i + 1) := hq1.trans (hA43 (i + 1) (by omega)).symm
  have f1 : g43 (i + 1) = aR E 4 10 (fun _ => none) := (hg43 (i + 1) (by omega)).trans f1
  have hq2 : q2 = A43 (i + 2) := hq2.trans (hA43 (i + 2) (by omega)).symm
  have f2 : g43 (i + 2) = aR E 2 16 (fun _ => none) := (hg43 (i + 2) (by omega)).trans f2
  have hq3 : q3 = A43 (i + 3) := hq3.trans (hA43 (i + 3) (by omega)).symm
  have v3 : ResV E A43 g43 (i + 3) 0 1 := v3.mv (fun k h1 h2 => hA43 k (by omega)) (fun k h1 h2 => hg43 k (by omega))
  have hq12 : q12 = A43 (i + 12) := hq12.trans (hA43 (i + 12) (by omega)).symm
  have hW : wH E (wF A (i + 1) sz) A43 (i + 54) s_ g43 H locs := hW
  refine W.widen (k := 53) (n := 255) (Nat.le_of_ble_eq_true rfl) (Nat.le_of_ble_eq_true rfl) ?_
  refine xc_putF X hnm hW (v := .ref q12) ha (by omega) ho rfl w_4 tyX10 tyX10_ok nmX10 4 (by decide) w_22 rfl rfl rfl rfl (by show 4 < 9; decide) dX10_init_46 (fun g46 H locs ho hg46 hW => ?_)
  have ho : g46 i = .inr (10, [.ref q1, .ref q2, .int (iI (0)), .ref q3, .ref q12, .null, .null, .null, .null]) := ho
  have hGG : ∀ k, k < i → g46 k = g k := fun k hk => (hg46 k (by omega)).trans (hGG k hk)
  have f1 : g46 (i + 1) = aR E 4 10 (fun _ => none) := (hg46 (i + 1) (by omega)).trans f1
  have f2 : g46 (i + 2) = aR E 2 16 (fun _ => none) := (hg46 (i + 2) (by omega)).trans f2
  have v3 : ResV E A43 g46 (i + 3) 0 1 := v3.mv (fun _ _ _ => rfl) (fun k h1 h2 => hg46 k (by omega))
  have v12 : ComB E A43 g46 (i + 12) := v12.mv (fun _ _ _ => rfl) (fun k h1 h2 => hg46 k (by omega))
  have hW : wH E (wF A (i + 1) sz) A43 (i + 54) s_ g46 H locs := hW
  refine lv_aload_n X.1 X.2.1 dX10_init_49 rfl (lv_at hl 0 rfl) ?_
  refine x_new X hW (ci := 6) (fs := [.null, .null, .null, .null, .null]) rfl w_26 tyX6 tyX6_ok w_23 w_24 w_25 dfX6 (Nat.le_of_ble_eq_true rfl) (Nat.le_of_ble_eq_true rfl) dX10_init_50 (fun q54 A50 g50 H hq54 hA50 hg50 f54 hW => ?_)
  have ha : a0 = A50 i := ha.trans (hA50 (i) (by omega)).symm
  have hAA : ∀ k, k < i + 1 → A50 k = A k := fun k hk => (hA50 k (by omega)).trans (hAA k hk)
  have hGG : ∀ k, k < i → g50 k = g k := fun k hk => (hg50 k (by omega)).trans (hGG k hk)
  have ho : g50 i = .inr (10, [.ref q1, .ref q2, .int (iI (0)), .ref q3, .ref q12, .null, .null, .null, .null]) := (hg50 (i) (by omega)).trans ho
  have hq1 : q1 = A50 (i + 1) := hq1.trans (hA50 (i + 1) (by omega)).symm
  have f1 : g50 (i + 1) = aR E 4 10 (fun _ => none) := (hg50 (i + 1) (by omega)).trans f1
  have hq2 : q2 = A50 (i + 2) := hq2.trans (hA50 (i + 2) (by omega)).symm
  have f2 : g50 (i + 2) = aR E 2 16 (fun _ => none) := (hg50 (i + 2) (by omega)).trans f2
  have hq3 : q3 = A50 (i + 3) := hq3.trans (hA50 (i + 3) (by omega)).symm
  have v3 : ResV E A50 g50 (i + 3) 0 1 := v3.mv (fun k h1 h2 => hA50 k (by omega)) (fun k h1 h2 => hg50 k (by omega))
  have hq12 : q12 = A50 (i + 12) := hq12.trans (hA50 (i + 12) (by omega)).symm
  have v12 : ComB E A50 g50 (i + 12) := v12.mv (fun k h1 h2 => hA50 k (by omega)) (fun k h1 h2 => hg50 k (by omega))
  have hW : wH E (wF A (i + 1) sz) A50 (i + 55) s_ g50 H locs := hW
  refine W.widen (k := 54) (n := 260) (Nat.le_of_ble_eq_true rfl) (Nat.le_of_ble_eq_true rfl) ?_
  refine lv_dup X.1 X.2.1 dX10_init_53 rfl ?_
  refine x_cI X hW hO hq54 (c_X6_init l E A50 (i + 55) H.size g50 (i + 54) rfl f54) gX10_init_X6_init rfl rfl rfl w_25 w_27 w_28 rfl (by decide +kernel) ⟨(Nat.le_of_ble_eq_true rfl), (Nat.le_of_ble_eq_true rfl)⟩ hl.1 (Nat.le_of_ble_eq_true rfl) dX10_init_54 ⟨(Nat.le_of_ble_eq_true rfl), (Nat.le_of_ble_eq_true rfl)⟩ (fun A54 g54 H locs hp54 hW => ?_)
  obtain ⟨hA54, hg54, v54⟩ := hp54
  have ha : a0 = A54 i := ha.trans (hA54 (i) (by omega)).symm
  have hAA : ∀ k, k < i + 1 → A54 k = A k := fun k hk => (hA54 k (by omega)).trans (hAA k hk)
  have hGG : ∀ k, k < i → g54 k = g k := fun k hk => (hg54 k (by omega)).trans (hGG k hk)
  have ho : g54 i = .inr (10, [.ref q1, .ref q2, .int (iI (0)), .ref q3, .ref q12, .null, .null, .null, .null]) := (hg54 (i) (by omega)).trans ho
  have hq1 : q1 = A54 (i + 1) := hq1.trans (hA54 (i + 1) (by omega)).symm
  have f1 : g54 (i + 1) = aR E 4 10 (fun _ => none) := (hg54 (i + 1) (by omega)).trans f1
  have hq2 : q2 = A54 (i + 2) := hq2.trans (hA54 (i + 2) (by omega)).symm
  have f2 : g54 (i + 2) = aR E 2 16 (fun _ => none) := (hg54 (i + 2) (by omega)).trans f2
  have hq3 : q3 = A54 (i + 3) := hq3.trans (hA54 (i + 3) (by omega)).symm
  have v3 : ResV E A54 g54 (i + 3) 0 1 := v3.mv (fun k h1 h2 => hA54 k (by omega)) (fun k h1 h2 => hg54 k (by omega))
  have hq12 : q12 = A54 (i + 12) := hq12.trans (hA54 (i + 12) (by omega)).symm
  have v12 : ComB E A54 g54 (i + 12) := v12.mv (fun k h1 h2 => hA54 k (by omega)) (fun k h1 h2 => hg54 k (by omega))
  have hq54 : q54 = A54 (i + 54) := hq54.trans (hA54 (i + 54) (by omega)).symm
  have hW : wH E (wF A (i + 1) sz) A54 (i + 65) s_ g54 H locs := hW
  refine W.widen (k := 64) (n := 295) (Nat.le_of_ble_eq_true rfl) (Nat.le_of_ble_eq_true rfl) ?_
  refine xc_putF X hnm hW (v := .ref q54) ha (by omega) ho rfl w_4 tyX10 tyX10_ok nmX10 5 (by decide) w_29 rfl rfl rfl rfl (by show 5 < 9; decide) dX10_init_57 (fun g57 H locs ho hg57 hW => ?_)
  have ho : g57 i = .inr (10, [.ref q1, .ref q2, .int (iI (0)), .ref q3, .ref q12, .ref q54, .null, .null, .null]) := ho
  have hGG : ∀ k, k < i → g57 k = g k := fun k hk => (hg57 k (by omega)).trans (hGG k hk)
  have f1 : g57 (i + 1) = aR E 4 10 (fun _ => none) := (hg57 (i + 1) (by omega)).trans f1
  have f2 : g57 (i + 2) = aR E 2 16 (fun _ => none) := (hg57 (i + 2) (by omega)).trans f2
  have v3 : ResV E A54 g57 (i + 3) 0 1 := v3.mv (fun _ _ _ => rfl) (fun k h1 h2 => hg57 k (by omega))
  have v12 : ComB E A54 g57 (i + 12) := v12.mv (fun _ _ _ => rfl) (fun k h1 h2 => hg57 k (by omega))
  have v54 : PasV E A54 g57 (i + 54) (pr ppV 17) := v54.mv (fun _ _ _ => rfl) (fun k h1 h2 => hg57 k (by omega))
  have hW : wH E (wF A (i + 1) sz) A54 (i + 65) s_ g57 H locs := hW
  refine lv_aload_n X.1 X.2.1 dX10_init_60 rfl (lv_at hl 0 rfl) ?_
  refine x_new X hW (ci := 7) (fs := [.null, .null, .null, .null]) rfl w_33 tyX7 tyX7_ok w_30 w_31 w_32 dfX7 (Nat.le_of_ble_eq_true rfl) (Nat.le_of_ble_eq_true rfl) dX10_init_61 (fun q65 A61 g61 H hq65 hA61 hg61 f65 hW => ?_)
  have ha : a0 = A61 i := ha.trans (hA61 (i) (by omega)).symm
  have hAA : ∀ k, k < i + 1 → A61 k = A k := fun k hk => (hA61 k (by omega)).trans (hAA k hk)
  have hGG : ∀ k, k < i → g61 k = g k := fun k hk => (hg61 k (by omega)).trans (hGG k hk)
  have ho : g61 i = .inr (10, [.ref q1, .ref q2, .int (iI (0)), .ref q3, .ref q12, .ref q54, .null, .null, .null]) := (hg61 (i) (by omega)).trans ho
  have hq1 : q1 = A61 (i + 1) := hq1.trans (hA61 (i + 1) (by omega)).symm
  have f1 : g61 (i + 1) = aR E 4 10 (fun _ => none) := (hg61 (i + 1) (by omega)).trans f1
  have hq2 : q2 = A61 (i + 2) := hq2.trans (hA61 (i + 2) (by omega)).symm
  have f2 : g61 (i + 2) = aR E 2 16 (fun _ => none) := (hg61 (i + 2) (by omega)).trans f2
  have hq3 : q3 = A61 (i + 3) := hq3.trans (hA61 (i + 3) (by omega)).symm
  have v3 : ResV E A61 g61 (i + 3) 0 1 := v3.mv (fun k h1 h2 => hA61 k (by omega)) (fun k h1 h2 => hg61 k (by omega))
  have hq12 : q12 = A61 (i + 12) := hq12.trans (hA61 (i + 12) (by omega)).symm
  have v12 : ComB E A61 g61 (i + 12) := v12.mv (fun k h1 h2 => hA61 k (by omega)) (fun k h1 h2 => hg61 k (by omega))
  have hq54 : q54 = A61 (i + 54) := hq54.trans (hA61 (i + 54) (by omega)).symm
  have v54 : PasV E A61 g61 (i + 54) (pr ppV 17) := v54.mv (fun k h1 h2 => hA61 k (by omega)) (fun k h1 h2 => hg61 k (by omega))
  have hW : wH E (wF A (i + 1) sz) A61 (i + 66) s_ g61 H locs := hW
  refine W.widen (k := 65) (n := 299) (Nat.le_of_ble_eq_true rfl) (Nat.le_of_ble_eq_true rfl) ?_
  refine lv_dup X.1 X.2.1 dX10_init_64 rfl ?_
  refine x_cI X hW hO hq65 (c_X7_init l E A61 (i + 66) H.size g61 (i + 65) rfl f65) gX10_init_X7_init rfl rfl rfl w_32 w_34 w_35 rfl (by decide +kernel) ⟨(Nat.le_of_ble_eq_true rfl), (Nat.le_of_ble_eq_true rfl)⟩ hl.1 (Nat.le_of_ble_eq_true rfl) dX10_init_65 ⟨(Nat.le_of_ble_eq_true rfl), (Nat.le_of_ble_eq_true rfl)⟩ (fun A65 g65 H locs hp65 hW => ?_)
  obtain ⟨hA65, hg65, v65⟩ := hp65
  have ha : a0 = A65 i := ha.trans (hA65 (i) (by omega)).symm
  have hAA : ∀ k, k < i + 1 → A65 k = A k := fun k hk => (hA65 k (by omega)).trans (hAA k hk)
  have hGG : ∀ k, k < i → g65 k = g k := fun k hk => (hg65 k (by omega)).trans (hGG k hk)
  have ho : g65 i = .inr (10, [.ref q1, .ref q2, .int (iI (0)), .ref q3, .ref q12, .ref q54, .null, .null, .null]) := (hg65 (i) (by omega)).trans ho
  have hq1 : q1 = A65 (i + 1) := hq1.trans (hA65 (i + 1) (by omega)).symm
  have f1 : g65 (i + 1) = aR E 4 10 (fun _ => none) := (hg65 (i + 1) (by omega)).trans f1
  have hq2 : q2 = A65 (i + 2) := hq2.trans (hA65 (i + 2) (by omega)).symm
  have f2 : g65 (i + 2) = aR E 2 16 (fun _ => none) := (hg65 (i + 2) (by omega)).trans f2
  have hq3 : q3 = A65 (i + 3) := hq3.trans (hA65 (i + 3) (by omega)).symm
  have v3 : ResV E A65 g65 (i + 3) 0 1 := v3.mv (fun k h1 h2 => hA65 k (by omega)) (fun k h1 h2 => hg65 k (by omega))
  have hq12 : q12 = A65 (i + 12) := hq12.trans (hA65 (i + 12) (by omega)).symm
  have v12 : ComB E A65 g65 (i + 12) := v12.mv (fun k h1 h2 => hA65 k (by omega)) (fun k h1 h2 => hg65 k (by omega))
  have hq54 : q54 = A65 (i + 54) := hq54.trans (hA65 (i + 54) (by omega)).symm
  have v54 : PasV E A65 g65 (i + 54) (pr ppV 17) := v54.mv (fun k h1 h2 => hA65 k (by omega)) (fun k h1 h2 => hg65 k (by omega))
  have hq65 : q65 = A65 (i + 65) := hq65.trans (hA65 (i + 65) (by omega)).symm
  have hW : wH E (wF A (i + 1) sz) A65 (i + 114) s_ g65 H locs := hW
  refine W.widen (k := 113) (n := 502) (Nat.le_of_ble_eq_true rfl) (Nat.le_of_ble_eq_true rfl) ?_
  refine xc_putF X hnm hW (v := .ref q65) ha (by omega) ho rfl w_4 tyX10 tyX10_ok nmX10 6 (by decide) w_36 rfl rfl rfl rfl (by show 6 < 9; decide) dX10_init_68 (fun g68 H locs ho hg68 hW => ?_)
  have ho : g68 i = .inr (10, [.ref q1, .ref q2, .int (iI (0)), .ref q3, .ref q12, .ref q54, .ref q65, .null, .null]) := ho
  have hGG : ∀ k, k < i → g68 k = g k := fun k hk => (hg68 k (by omega)).trans (hGG k hk)
  have f1 : g68 (i + 1) = aR E 4 10 (fun _ => none) := (hg68 (i + 1) (by omega)).trans f1
  have f2 : g68 (i + 2) = aR E 2 16 (fun _ => none) := (hg68 (i + 2) (by omega)).trans f2
  have v3 : ResV E A65 g68 (i + 3) 0 1 := v3.mv (fun _ _ _ => rfl) (fun k h1 h2 => hg68 k (by omega))
  have v12 : ComB E A65 g68 (i + 12) := v12.mv (fun _ _ _ => rfl) (fun k h1 h2 => hg68 k (by omega))
  have v54 : PasV E A65 g68 (i + 54) (pr ppV 17) := v54.mv (fun _ _ _ => rfl) (fun k h1 h2 => hg68 k (by omega))
  have v65 : RkV E A65 g68 (i + 65) (fun _ => 0) := v65.mv (fun _ _ _ => rfl) (fun k h1 h2 => hg68 k (by omega))
  have hW : wH E (wF A (i + 1) sz) A65 (i + 114) s_ g68 H locs := hW
  refine lv_aload_n X.1 X.2.1 dX10_init_71 rfl (lv_at hl 0 rfl) ?_
  refine x_new X hW (ci := 4) (fs := [.null, .null, .int 0, .null, .null, .null]) rfl w_40 tyX4 tyX4_ok w_37 w_38 w_39 dfX4 (Nat.le_of_ble_eq_true rfl) (Nat.le_of_ble_eq_true rfl) dX10_init_72 (fun q114 A72 g72 H hq114 hA72 hg72 f114 hW => ?_)
  have ha : a0 = A72 i := ha.trans (hA72 (i) (by omega)).symm
  have hAA : ∀ k, k < i + 1 → A72 k = A k := fun k hk => (hA72 k (by omega)).trans (hAA k hk)
  have hGG : ∀ k, k < i → g72 k = g k := fun k hk => (hg72 k (by omega)).trans (hGG k hk)
  have ho : g72 i = .inr (10, [.ref q1, .ref q2, .int (iI (0)), .ref q3, .ref q12, .ref q54, .ref q65, .null, .null]) := (hg72 (i) (by omega)).trans ho
  have hq1 : q1 = A72 (i + 1) := hq1.trans (hA72 (i + 1) (by omega)).symm
  have f1 : g72 (i + 1) = aR E 4 10 (fun _ => none) := (hg72 (i + 1) (by omega)).trans f1
  have hq2 : q2 = A72 (i + 2) := hq2.trans (hA72 (i + 2) (by omega)).symm
  have f2 : g72 (i + 2) = aR E 2 16 (fun _ => none) := (hg72 (i + 2) (by omega)).trans f2
  have hq3 : q3 = A72 (i + 3) := hq3.trans (hA72 (i + 3) (by omega)).symm
  have v3 : ResV E A72 g72 (i + 3) 0 1 := v3.mv (fun k h1 h2 => hA72 k (by omega)) (fun k h1 h2 => hg72 k (by omega))
  have hq12 : q12 = A72 (i + 12) := hq12.trans (hA72 (i + 12) (by omega)).symm
  have v12 : ComB E A72 g72 (i + 12) := v12.mv (fun k h1 h2 => hA72 k (by omega)) (fun k h1 h2 => hg72 k (by omega))
  have hq54 : q54 = A72 (i + 54) := hq54.trans (hA72 (i + 54) (by omega)).symm
  have v54 : PasV E A72 g72 (i + 54) (pr ppV 17) := v54.mv (fun k h1 h2 => hA72 k (by omega)) (fun k h1 h2 => hg72 k (by omega))
  have hq65 : q65 = A72 (i + 65) := hq65.trans (hA72 (i + 65) (by omega)).symm
  have v65 : RkV E A72 g72 (i + 65) (fun _ => 0) := v65.mv (fun k h1 h2 => hA72 k (by omega)) (fun k h1 h2 => hg72 k (by omega))
  have hW : wH E (wF A (i + 1) sz) A72 (i + 115) s_ g72 H locs := hW
  refine W.widen (k := 114) (n := 508) (Nat.le_of_ble_eq_true rfl) (Nat.le_of_ble_eq_true rfl) ?_
  refine lv_dup X.1 X.2.1 dX10_init_75 rfl ?_
  refine x_cIN X hW hO hq114 (c_X4_init l E A72 (i + 115) H.size g72 (i + 114) rfl f114) gX10_init_X4_init_n55 rfl rfl rfl (by decide) w_39 w_41 rfl (by decide +kernel) ⟨(Nat.le_of_ble_eq_true rfl), (Nat.le_of_ble_eq_true rfl)⟩ hl.1 (Nat.le_of_ble_eq_true rfl) dX10_init_76 ⟨(Nat.le_of_ble_eq_true rfl), (Nat.le_of_ble_eq_true rfl)⟩ (fun A76 g76 H locs hp76 hW => ?_)
  obtain ⟨hA76, hg76, v114⟩ := hp76
  have ha : a0 = A76 i := ha.trans (hA76 (i) (by omega)).symm
  have hAA : ∀ k, k < i + 1 → A76 k = A k := fun k hk => (hA76 k (by omega)).trans (hAA k hk)
  have hGG : ∀ k, k < i → g76 k = g k := fun k hk => (hg76 k (by omega)).trans (hGG k hk)
  have ho : g76 i = .inr (10, [.ref q1, .ref q2, .int (iI (0)), .ref q3, .ref q12, .ref q54, .ref q65, .null, .null]) := (hg76 (i) (by omega)).trans ho
  have hq1 : q1 = A76 (i + 1) := hq1.trans (hA76 (i + 1) (by omega)).symm
  have f1 : g76 (i + 1) = aR E 4 10 (fun _ => none) := (hg76 (i + 1) (by omega)).trans f1
  have hq2 : q2 = A76 (i + 2) := hq2.trans (hA76 (i + 2) (by omega)).symm
  have f2 : g76 (i + 2) = aR E 2 16 (fun _ => none) := (hg76 (i + 2) (by omega)).trans f2
  have hq3 : q3 = A76 (i + 3) := hq3.trans (hA76 (i + 3) (by omega)).symm
  have v3 : ResV E A76 g76 (i + 3) 0 1 := v3.mv (fun k h1 h2 => hA76 k (by omega)) (fun k h1 h2 => hg76 k (by omega))
  have hq12 : q12 = A76 (i + 12) := hq12.trans (hA76 (i + 12) (by omega)).symm
  have v12 : ComB E A76 g76 (i + 12) := v12.mv (fun k h1 h2 => hA76 k (by omega)) (fun k h1 h2 => hg76 k (by omega))
  have hq54 : q54 = A76 (i + 54) := hq54.trans (hA76 (i + 54) (by omega)).symm
  have v54 : PasV E A76 g76 (i + 54) (pr ppV 17) := v54.mv (fun k h1 h2 => hA76 k (by omega)) (fun k h1 h2 => hg76 k (by omega))
  have hq65 : q65 = A76 (i + 65) := hq65.trans (hA76 (i + 65) (by omega)).symm
  have v65 : RkV E A76 g76 (i + 65) (fun _ => 0) := v65.mv (fun k h1 h2 => hA76 k (by omega)) (fun k h1 h2 => hg76 k (by omega))
  have hq114 : q114 = A76 (i + 114) := hq114.trans (hA76 (i + 114) (by omega)).symm
  have hW : wH E (wF A (i + 1) sz) A76 (i + 123) s_ g76 H locs := hW
  refine W.widen (k := 122) (n := 569) (Nat.le_of_ble_eq_true rfl) (Nat.le_of_ble_eq_true rfl) ?_
  refine xc_putF X hnm hW (v := .ref q114) ha (by omega) ho rfl w_4 tyX10 tyX10_ok nmX10 7 (by decide) w_42 rfl rfl rfl rfl (by show 7 < 9; decide) dX10_init_79 (fun g79 H locs ho hg79 hW => ?_)
  have ho : g79 i = .inr (10, [.ref q1, .ref q2, .int (iI (0)), .ref q3, .ref q12, .ref q54, .ref q65, .ref q114, .null]) := ho
  have hGG : ∀ k, k < i → g79 k = g k := fun k hk => (hg79 k (by omega)).trans (hGG k hk)
  have f1 : g79 (i + 1) = aR E 4 10 (fun _ => none) := (hg79 (i + 1) (by omega)).trans f1
  have f2 : g79 (i + 2) = aR E 2 16 (fun _ => none) := (hg79 (i + 2) (by omega)).trans f2
  have v3 : ResV E A76 g79 (i + 3) 0 1 := v3.mv (fun _ _ _ => rfl) (fun k h1 h2 => hg79 k (by omega))
  have v12 : ComB E A76 g79 (i + 12) := v12.mv (fun _ _ _ => rfl) (fun k h1 h2 => hg79 k (by omega))
  have v54 : PasV E A76 g79 (i + 54) (pr ppV 17) := v54.mv (fun _ _ _ => rfl) (fun k h1 h2 => hg79 k (by omega))
  have v65 : RkV E A76 g79 (i + 65) (fun _ => 0) := v65.mv (fun _ _ _ => rfl) (fun k h1 h2 => hg79 k (by omega))
  have v114 : HapV E A76 g79 (i + 114) 0 (fun _ => 0) (fun _ => 0) := v114.mv (fun _ _ _ => rfl) (fun k h1 h2 => hg79 k (by omega))
  have hW : wH E (wF A (i + 1) sz) A76 (i + 123) s_ g79 H locs := hW
  refine lv_aload_n X.1 X.2.1 dX10_init_82 rfl (lv_at hl 0 rfl) ?_
  refine x_new X hW (ci := 1) (fs := [.null, .null, .null, .null, .null, .null, .null, .null]) rfl w_46 tyX1 tyX1_ok w_43 w_44 w_45 dfX1 (Nat.le_of_ble_eq_true rfl) (Nat.le_of_ble_eq_true rfl) dX10_init_83 (fun q123 A83 g83 H hq123 hA83 hg83 f123 hW => ?_)
  have ha : a0 = A83 i := ha.trans (hA83 (i) (by omega)).symm
  have hAA : ∀ k, k < i + 1 → A83 k = A k := fun k hk => (hA83 k (by omega)).trans (hAA k hk)
  have hGG : ∀ k, k < i → g83 k = g k := fun k hk => (hg83 k (by omega)).trans (hGG k hk)
  have ho : g83 i = .inr (10, [.ref q1, .ref q2, .int (iI (0)), .ref q3, .ref q12, .ref q54, .ref q65, .ref q114, .null]) := (hg83 (i) (by omega)).trans ho
  have hq1 : q1 = A83 (i + 1) := hq1.trans (hA83 (i + 1) (by omega)).symm
  have f1 : g83 (i + 1) = aR E 4 10 (fun _ => none) := (hg83 (i + 1) (by omega)).trans f1
  have hq2 : q2 = A83 (i + 2) := hq2.trans (hA83 (i + 2) (by omega)).symm
  have f2 : g83 (i + 2) = aR E 2 16 (fun _ => none) := (hg83 (i + 2) (by omega)).trans f2
  have hq3 : q3 = A83 (i + 3) := hq3.trans (hA83 (i + 3) (by omega)).symm
  have v3 : ResV E A83 g83 (i + 3) 0 1 := v3.mv (fun k h1 h2 => hA83 k (by omega)) (fun k h1 h2 => hg83 k (by omega))
  have hq12 : q12 = A83 (i + 12) := hq12.trans (hA83 (i + 12) (by omega)).symm
  have v12 : ComB E A83 g83 (i + 12) := v12.mv (fun k h1 h2 => hA83 k (by omega)) (fun k h1 h2 => hg83 k (by omega))
  have hq54 : q54 = A83 (i + 54) := hq54.trans (hA83 (i + 54) (by omega)).symm
  have v54 : PasV E A83 g83 (i + 54) (pr ppV 17) := v54.mv (fun k h1 h2 => hA83 k (by omega)) (fun k h1 h2 => hg83 k (by omega))
  have hq65 : q65 = A83 (i + 65) := hq65.trans (hA83 (i + 65) (by omega)).symm
  have v65 : RkV E A83 g83 (i + 65) (fun _ => 0) := v65.mv (fun k h1 h2 => hA83 k (by omega)) (fun k h1 h2 => hg83 k (by omega))
  have hq114 : q114 = A83 (i + 114) := hq114.trans (hA83 (i + 114) (by omega)).symm
  have v114 : HapV E A83 g83 (i + 114) 0 (fun _ => 0) (fun _ => 0) := v114.mv (fun k h1 h2 => hA83 k (by omega)) (fun k h1 h2 => hg83 k (by omega))
  have hW : wH E (wF A (i + 1) sz) A83 (i + 124) s_ g83 H locs := hW
  refine W.widen (k := 123) (n := 577) (Nat.le_of_ble_eq_true rfl) (Nat.le_of_ble_eq_true rfl) ?_
  refine lv_dup X.1 X.2.1 dX10_init_86 rfl ?_
  refine x_cIN X hW hO hq123 (c_X1_init l E A83 (i + 124) H.size g83 (i + 123) rfl f123) gX10_init_X1_init_n62 rfl rfl rfl (by decide) w_45 w_47 rfl (by decide +kernel) ⟨(Nat.le_of_ble_eq_true rfl), (Nat.le_of_ble_eq_true rfl)⟩ hl.1 (Nat.le_of_ble_eq_true rfl) dX10_init_87 ⟨(Nat.le_of_ble_eq_true rfl), (Nat.le_of_ble_eq_true rfl)⟩ (fun A87 g87 H locs hp87 hW => ?_)
  obtain ⟨hA87, hg87, v123⟩ := hp87
  have ha : a0 = A87 i := ha.trans (hA87 (i) (by omega)).symm
  have hAA : ∀ k, k < i + 1 → A87 k = A k := fun k hk => (hA87 k (by omega)).trans (hAA k hk)
  have hGG : ∀ k, k < i → g87 k = g k := fun k hk => (hg87 k (by omega)).trans (hGG k hk)
  have ho : g87 i = .inr (10, [.ref q1, .ref q2, .int (iI (0)), .ref q3, .ref q12, .ref q54, .ref q65, .ref q114, .null]) := (hg87 (i) (by omega)).trans ho
  have hq1 : q1 = A87 (i + 1) := hq1.trans (hA87 (i + 1) (by omega)).symm
  have f1 : g87 (i + 1) = aR E 4 10 (fun _ => none) := (hg87 (i + 1) (by omega)).trans f1
  have hq2 : q2 = A87 (i + 2) := hq2.trans (hA87 (i + 2) (by omega)).symm
  have f2 : g87 (i + 2) = aR E 2 16 (fun _ => none) := (hg87 (i + 2) (by omega)).trans f2
  have hq3 : q3 = A87 (i + 3) := hq3.trans (hA87 (i + 3) (by omega)).symm
  have v3 : ResV E A87 g87 (i + 3) 0 1 := v3.mv (fun k h1 h2 => hA87 k (by omega)) (fun k h1 h2 => hg87 k (by omega))
  have hq12 : q12 = A87 (i + 12) := hq12.trans (hA87 (i + 12) (by omega)).symm
  have v12 : ComB E A87 g87 (i + 12) := v12.mv (fun k h1 h2 => hA87 k (by omega)) (fun k h1 h2 => hg87 k (by omega))
  have hq54 : q54 = A87 (i + 54) := hq54.trans (hA87 (i + 54) (by omega)).symm
  have v54 : PasV E A87 g87 (i + 54) (pr ppV 17) := v54.mv (fun k h1 h2 => hA87 k (by omega)) (fun k h1 h2 => hg87 k (by omega))
  have hq65 : q65 = A87 (i + 65) := hq65.trans (hA87 (i + 65) (by omega)).symm
  have v65 : RkV E A87 g87 (i + 65) (fun _ => 0) := v65.mv (fun k h1 h2 => hA87 k (by omega)) (fun k h1 h2 => hg87 k (by omega))
  have hq114 : q114 = A87 (i + 114) := hq114.trans (hA87 (i + 114) (by omega)).symm
  have v114 : HapV E A87 g87 (i + 114) 0 (fun _ => 0) (fun _ => 0) := v114.mv (fun k h1 h2 => hA87 k (by omega)) (fun k h1 h2 => hg87 k (by omega))
  have hq123 : q123 = A87 (i + 123) := hq123.trans (hA87 (i + 123) (by omega)).symm
  have hW : wH E (wF A (i + 1) sz) A87 (i + 142) s_ g87 H locs := hW
  refine W.widen (k := 141) (n := 683) (Nat.le_of_ble_eq_true rfl) (Nat.le_of_ble_eq_true rfl) ?_
  refine xc_putF X hnm hW (v := .ref q123) ha (by omega) ho rfl w_4 tyX10 tyX10_ok nmX10 8 (by decide) w_48 rfl rfl rfl rfl (by show 8 < 9; decide) dX10_init_90 (fun g90 H locs ho hg90 hW => ?_)
  have ho : g90 i = .inr (10, [.ref q1, .ref q2, .int (iI (0)), .ref q3, .ref q12, .ref q54, .ref q65, .ref q114, .ref q123]) := ho
  have hGG : ∀ k, k < i → g90 k = g k := fun k hk => (hg90 k (by omega)).trans (hGG k hk)
  have f1 : g90 (i + 1) = aR E 4 10 (fun _ => none) := (hg90 (i + 1) (by omega)).trans f1
  have f2 : g90 (i + 2) = aR E 2 16 (fun _ => none) := (hg90 (i + 2) (by omega)).trans f2
  have v3 : ResV E A87 g90 (i + 3) 0 1 := v3.mv (fun _ _ _ => rfl) (fun k h1 h2 => hg90 k (by omega))
  have v12 : ComB E A87 g90 (i + 12) := v12.mv (fun _ _ _ => rfl) (fun k h1 h2 => hg90 k (by omega))
  have v54 : PasV E A87 g90 (i + 54) (pr ppV 17) := v54.mv (fun _ _ _ => rfl) (fun k h1 h2 => hg90 k (by omega))
  have v65 : RkV E A87 g90 (i + 65) (fun _ => 0) := v65.mv (fun _ _ _ => rfl) (fun k h1 h2 => hg90 k (by omega))
  have v114 : HapV E A87 g90 (i + 114) 0 (fun _ => 0) (fun _ => 0) := v114.mv (fun _ _ _ => rfl) (fun k h1 h2 => hg90 k (by omega))
  have v123 : BoxB E A87 g90 (i + 123) := v123.mv (fun _ _ _ => rfl) (fun k h1 h2 => hg90 k (by omega))
  have hW : wH E (wF A (i + 1) sz) A87 (i + 142) s_ g90 H locs := hW
  refine x_iconst X dX10_init_93 ?_
  refine lv_istore_n (lv' := [(1, .int (iI (((0 : Nat) : Int)))), (0, .ref a0)]) X.1 X.2.1 dX10_init_94 rfl hl (by decide) rfl (fun ls hl => ?_)
  have loopa : ∀ Q : State → Prop, (∀ (A2 : Nat → Nat) (g2 : Nat → va_E) (H : Heap) (locs : List Loc) (ls : Array Slot), (∀ k, k < i + 142 → A2 k = A87 k) → (∀ k, k < i + 142 → k ≠ i + 1 → g2 k = g90 k) → (∃ f : Nat → Option Nat, g2 (i + 1) = aR E 4 10 f ∧ ∀ k, k < 10 → f k = some (A2 (i + 142 + 2 * k))) → (∀ k, k < 10 → RowV E A2 g2 (i + 142 + 2 * k) 0 (-1) (fun _ => 0)) → wH E (wF A (i + 1) sz) A2 (i + 142 + 2 * 10) s_ g2 H locs → lv_has ls 2 [(1, .int (iI (((10 : Nat) : Int)))), (0, .ref a0)] → W p_ l e_ ({ frames := 4, cells := 209, slots := 1433, locals := 200 } : Room) s_ m_ args below meth c_ H locs (161) (1113) Q (F0 m_ 123 ls [])) → ∀ (d j : Nat) (A1 : Nat → Nat) (g1 : Nat → va_E) (H : Heap) (locs : List Loc) (ls : Array Slot), j ≤ 10 → 10 + 1 ≤ j + d → (∀ k, k < i + 142 → A1 k = A87 k) → (∀ k, k < i + 142 → k ≠ i + 1 → g1 k = g90 k) → (∃ f : Nat → Option Nat, g1 (i + 1) = aR E 4 10 f ∧ ∀ k, k < j → f k = some (A1 (i + 142 + 2 * k))) → (∀ k, k < j → RowV E A1 g1 (i + 142 + 2 * k) 0 (-1) (fun _ => 0)) → wH E (wF A (i + 1) sz) A1 (i + 142 + 2 * j) s_ g1 H locs → lv_has ls 2 [(1, .int (iI (((j : Nat) : Int)))), (0, .ref a0)] → W p_ l e_ ({ frames := 4, cells := 209, slots := 1433, locals := 200 } : Room) s_ m_ args below meth c_ H locs (141 + 2 * j) (683 + 43 * j) Q (F0 m_ 95 ls []) := by
    intro Q kont d
    induction d with
    | zero => intro j A1 g1 H locs ls h1 h2; exact absurd h2 (by omega)
    | succ d ih =>
      intro j A1 g1 H locs ls h1 h2 hA1 hg1 harr hvs hW hl
      obtain ⟨f, hf, hfk⟩ := harr
      have ha1 : a0 = A1 i := ha.trans (hA1 i (by omega)).symm
      have ho1 : g1 i = .inr (10, [.ref q1, .ref q2, .int (iI (0)), .ref q3, .ref q12, .ref q54, .ref q65, .ref q114, .ref q123]) := (hg1 i (by omega) (by omega)).trans ho
      have hq1 : q1 = A1 (i + 1) := hq1.trans (hA1 (i + 1) (by omega)).symm
      refine lv_iload_n X.1 X.2.1 dX10_init_95 rfl (lv_at hl 0 rfl) ?_
      refine lv_aload_n X.1 X.2.1 dX10_init_96 rfl (lv_at hl 1 rfl) ?_
      refine xc_get X hW ha1 (by omega) ho1 rfl w_4 0 (by decide) w_5 rfl dX10_init_97 ?_
      rw [hq1]
      refine x_alen X hW (by omega) hf rfl dX10_init_100 ?_
      refine x_icmp_ge (tgt := 123) X (by unfold I32; omega) (by unfold I32; omega) dX10_init_101 (by decide) (fun b_ => ?_) (fun b_ => ?_)
      · obtain rfl : j = 10 := by omega
        exact kont A1 g1 H locs ls hA1 hg1 ⟨f, hf, hfk⟩ hvs hW hl
      · have hj : j < 10 := by omega
        refine lv_aload_n X.1 X.2.1 dX10_init_104 rfl (lv_at hl 1 rfl) ?_
        refine xc_get X hW ha1 (by omega) ho1 rfl w_4 0 (by decide) w_5 rfl dX10_init_105 ?_
        refine lv_iload_n X.1 X.2.1 dX10_init_108 rfl (lv_at hl 0 rfl) ?_
        refine x_new X hW (ci := 9) (fs := [.null, .int 0, .int 0]) rfl w_51 tyX9 tyX9_ok w_3 w_49 w_50 dfX9 (by show 141 + 2 * j + 1 ≤ 209; omega) (by show 683 + 43 * j + 3 ≤ 1433; omega) dX10_init_109 (fun qn A3 g3 H hqn hA3 hg3 fn hW => ?_)
        refine lv_dup X.1 X.2.1 dX10_init_112 rfl ?_
        refine x_cIN X hW hO hqn (c_X9_init l E A3 (i + 142 + 2 * j + 1) H.size g3 (i + 142 + 2 * j) rfl fn) gX10_init_X9_init_n67 rfl rfl rfl (by decide) w_50 w_52 rfl (by decide +kernel) ⟨(Nat.le_of_ble_eq_true rfl), (Nat.le_of_ble_eq_true rfl)⟩ hl.1 (Nat.le_of_ble_eq_true rfl) dX10_init_113 ⟨by show 141 + 2 * j + 1 + 1 ≤ 209; omega, by show 683 + 43 * j + 3 + 40 ≤ 1433; omega⟩ (fun A4 g4 H locs hp4 hW => ?_)
        obtain ⟨hA4, hg4, v4⟩ := hp4
        have hqn4 : qn = A4 (i + 142 + 2 * j) := hqn.trans (hA4 _ (by omega)).symm
        have hA5 : ∀ k, k < i + 142 + 2 * j → A4 k = A1 k := fun k hk => (hA4 k (by omega)).trans (hA3 k hk)
        have hg5 : ∀ k, k < i + 142 + 2 * j → g4 k = g1 k := fun k hk => (hg4 k hk).trans (hg3 k hk)
        have hq4 : q1 = A4 (i + 1) := hq1.trans (hA5 _ (by omega)).symm
        have hf4 : g4 (i + 1) = aR E 4 10 f := (hg5 _ (by omega)).trans hf
        rw [hqn4, hq4]
        refine x_aast X hW (r := (RX9, TX9, 3)) (by omega) hf4 rfl (by omega) v4.1 rfl j rfl hj (by omega) dX10_init_116 (fun g5 H locs e5 hW => ?_)
        refine lv_iinc (v := iI ((((j + 1 : Nat)) : Int))) (lv' := [(1, .int (iI ((((j + 1 : Nat)) : Int)))), (0, .ref a0)]) X.1 X.2.1 dX10_init_117 hl (k := 0) rfl (by rw [show (Int32.ofInt (1)) = iI (1) from rfl, iI_add]; first | rfl | (congr 1; omega)) (by decide) rfl (fun ls hl => ?_)
        refine lv_goto (tgt := 95) X.1 X.2.1 dX10_init_120 (by decide) ?_
        refine W.widen (k := 141 + 2 * (j + 1)) (n := 683 + 43 * (j + 1)) (by omega) (by omega) ?_
        have hne : ∀ k, k ≠ i + 1 → g5 k = g4 k := fun k hk => by rw [e5]; exact va_up_ne _ _ hk
        refine ih (j + 1) A4 g5 H locs ls (by omega) (by omega) (fun k hk => (hA5 k (by omega)).trans (hA1 k hk)) (fun k hk h3 => (hne k h3).trans ((hg5 k (by omega)).trans (hg1 k hk h3))) ⟨_, by rw [e5]; exact va_up_self _ _ _, fun k hk => ?_⟩ (fun k hk => ?_) (by rw [show i + 142 + 2 * (j + 1) = i + 142 + 2 * j + 1 + 1 from by omega]; exact hW) hl
        · by_cases hkj : k = j
          · rw [hkj]; exact va_up_self _ _ _
          · rw [va_up_ne _ _ hkj, hfk k (by omega), hA5 _ (by omega)]
        · by_cases hkj : k = j
          · rw [hkj]; exact v4.mv (fun _ _ _ => rfl) (fun k h1 h2 => hne k (by omega))
          · exact (hvs k (by omega)).mv (fun k h1 h2 => hA5 k (by omega)) (fun k h1 h2 => (hne k (by omega)).trans (hg5 k (by omega)))
  refine loopa _ (fun Aea gea H locs ls hAea hgea hara hvsa hW hl => ?_) (10 + 1) 0 _ _ H locs ls (by omega) (by omega) (fun _ _ => rfl) (fun _ _ _ => rfl) ⟨_, f1, fun k hk => absurd hk (by omega)⟩ (fun k hk => absurd hk (by omega)) hW hl
  have ha : a0 = Aea i := ha.trans (hAea (i) (by omega)).symm
  have hAA : ∀ k, k < i + 1 → Aea k = A k := fun k hk => (hAea k (by omega)).trans (hAA k hk)
  have hGG : ∀ k, k < i → gea k = g k := fun k hk => (hgea k (by omega) (by omega)).trans (hGG k hk)
  have ho : gea i = .inr (10, [.ref q1, .ref q2, .int (iI (0)), .ref q3, .ref q12, .ref q54, .ref q65, .ref q114, .ref q123]) := (hgea (i) (by omega) (by omega)).trans ho
  have hq1 : q1 = Aea (i + 1) := hq1.trans (hAea (i + 1) (by omega)).symm
  have hq2 : q2 = Aea (i + 2) := hq2.trans (hAea (i + 2) (by omega)).symm
  have f2 : gea (i + 2) = aR E 2 16 (fun _ => none) := (hgea (i + 2) (by omega) (by omega)).trans f2
  have hq3 : q3 = Aea (i + 3) := hq3.trans (hAea (i + 3) (by omega)).symm
  have v3 : ResV E Aea gea (i + 3) 0 1 := v3.mv (fun k h1 h2 => hAea k (by omega)) (fun k h1 h2 => hgea k (by omega) (by omega))
  have hq12 : q12 = Aea (i + 12) := hq12.trans (hAea (i + 12) (by omega)).symm
  have v12 : ComB E Aea gea (i + 12) := v12.mv (fun k h1 h2 => hAea k (by omega)) (fun k h1 h2 => hgea k (by omega) (by omega))
  have hq54 : q54 = Aea (i + 54) := hq54.trans (hAea (i + 54) (by omega)).symm
  have v54 : PasV E Aea gea (i + 54) (pr ppV 17) := v54.mv (fun k h1 h2 => hAea k (by omega)) (fun k h1 h2 => hgea k (by omega) (by omega))
  have hq65 : q65 = Aea (i + 65) := hq65.trans (hAea (i + 65) (by omega)).symm
  have v65 : RkV E Aea gea (i + 65) (fun _ => 0) := v65.mv (fun k h1 h2 => hAea k (by omega)) (fun k h1 h2 => hgea k (by omega) (by omega))
  have hq114 : q114 = Aea (i + 114) := hq114.trans (hAea (i + 114) (by omega)).symm
  have v114 : HapV E Aea gea (i + 114) 0 (fun _ => 0) (fun _ => 0) := v114.mv (fun k h1 h2 => hAea k (by omega)) (fun k h1 h2 => hgea k (by omega) (by omega))
  have hq123 : q123 = Aea (i + 123) := hq123.trans (hAea (i + 123) (by omega)).symm
  have v123 : BoxB E Aea gea (i + 123) := v123.mv (fun k h1 h2 => hAea k (by omega)) (fun k h1 h2 => hgea k (by omega) (by omega))
  have hW : wH E (wF A (i + 1) sz) Aea (i + 162) s_ gea H locs := hW
  refine x_iconst X dX10_init_123 ?_
  refine lv_istore_n (lv' := [(1, .int (iI (((0 : Nat) : Int)))), (0, .ref a0)]) X.1 X.2.1 dX10_init_124 rfl hl (by decide) rfl (fun ls hl => ?_)
  have loopb : ∀ Q : State → Prop, (∀ (A2 : Nat → Nat) (g2 : Nat → va_E) (H : Heap) (locs : List Loc) (ls : Array Slot), (∀ k, k < i + 162 → A2 k = Aea k) → (∀ k, k < i + 162 → k ≠ i + 2 → g2 k = gea k) → (∃ f : Nat → Option Nat, g2 (i + 2) = aR E 2 16 f ∧ ∀ k, k < 16 → f k = some (A2 (i + 162 + 3 * k))) → (∀ k, k < 16 → BookC E A2 g2 (i + 162 + 3 * k) 0 (fun _ => 0) (fun _ => 0) 0) → wH E (wF A (i + 1) sz) A2 (i + 162 + 3 * 16) s_ g2 H locs → lv_has ls 2 [(1, .int (iI (((16 : Nat) : Int)))), (0, .ref a0)] → W p_ l e_ ({ frames := 4, cells := 209, slots := 1433, locals := 200 } : Room) s_ m_ args below meth c_ H locs (209) (1433) Q (F0 m_ 153 ls [])) → ∀ (d j : Nat) (A1 : Nat → Nat) (g1 : Nat → va_E) (H : Heap) (locs : List Loc) (ls : Array Slot), j ≤ 16 → 16 + 1 ≤ j + d → (∀ k, k < i + 162 → A1 k = Aea k) → (∀ k, k < i + 162 → k ≠ i + 2 → g1 k = gea k) → (∃ f : Nat → Option Nat, g1 (i + 2) = aR E 2 16 f ∧ ∀ k, k < j → f k = some (A1 (i + 162 + 3 * k))) → (∀ k, k < j → BookC E A1 g1 (i + 162 + 3 * k) 0 (fun _ => 0) (fun _ => 0) 0) → wH E (wF A (i + 1) sz) A1 (i + 162 + 3 * j) s_ g1 H locs → lv_has ls 2 [(1, .int (iI (((j : Nat) : Int)))), (0, .ref a0)] → W p_ l e_ ({ frames := 4, cells := 209, slots := 1433, locals := 200 } : Room) s_ m_ args below meth c_ H locs (161 + 3 * j) (1113 + 20 * j) Q (F0 m_ 125 ls []) := by
    intro Q kont d
    induction d with
    | zero => intro j A1 g1 H locs ls h1 h2; exact absurd h2 (by omega)
    | succ d ih =>
      intro j A1 g1 H locs ls h1 h2 hA1 hg1 harr hvs hW hl
      obtain ⟨f, hf, hfk⟩ := harr
      have ha1 : a0 = A1 i := ha.trans (hA1 i (by omega)).symm
      have ho1 : g1 i = .inr (10, [.ref q1, .ref q2, .int (iI (0)), .ref q3, .ref q12, .ref q54, .ref q65, .ref q114, .ref q123]) := (hg1 i (by omega) (by omega)).trans ho
      have hq1 : q2 = A1 (i + 2) := hq2.trans (hA1 (i + 2) (by omega)).symm
      refine lv_iload_n X.1 X.2.1 dX10_init_125 rfl (lv_at hl 0 rfl) ?_
      refine lv_aload_n X.1 X.2.1 dX10_init_126 rfl (lv_at hl 1 rfl) ?_
      refine xc_get X hW ha1 (by omega) ho1 rfl w_4 1 (by decide) w_7 rfl dX10_init_127 ?_
      rw [hq1]
      refine x_alen X hW (by omega) hf rfl dX10_init_130 ?_
      refine x_icmp_ge (tgt := 153) X (by unfold I32; omega) (by unfold I32; omega) dX10_init_131 (by decide) (fun b_ => ?_) (fun b_ => ?_)
      · obtain rfl : j = 16 := by omega
        exact kont A1 g1 H locs ls hA1 hg1 ⟨f, hf, hfk⟩ hvs hW hl
      · have hj : j < 16 := by omega
        refine lv_aload_n X.1 X.2.1 dX10_init_134 rfl (lv_at hl 1 rfl) ?_
        refine xc_get X hW ha1 (by omega) ho1 rfl w_4 1 (by decide) w_7 rfl dX10_init_135 ?_
        refine lv_iload_n X.1 X.2.1 dX10_init_138 rfl (lv_at hl 0 rfl) ?_
        refine x_new X hW (ci := 0) (fs := [.null, .null, .int 0, .int 0]) rfl w_55 tyX0 tyX0_ok w_6 w_53 w_54 dfX0 (by show 161 + 3 * j + 1 ≤ 209; omega) (by show 1113 + 20 * j + 4 ≤ 1433; omega) dX10_init_139 (fun qn A3 g3 H hqn hA3 hg3 fn hW => ?_)
        refine lv_dup X.1 X.2.1 dX10_init_142 rfl ?_
        refine x_cIN X hW hO hqn (c_X0_init l E A3 (i + 162 + 3 * j + 1) H.size g3 (i + 162 + 3 * j) rfl fn) gX10_init_X0_init_n68 rfl rfl rfl (by decide) w_54 w_56 rfl (by decide +kernel) ⟨(Nat.le_of_ble_eq_true rfl), (Nat.le_of_ble_eq_true rfl)⟩ hl.1 (Nat.le_of_ble_eq_true rfl) dX10_init_143 ⟨by show 161 + 3 * j + 1 + 2 ≤ 209; omega, by show 1113 + 20 * j + 4 + 16 ≤ 1433; omega⟩ (fun A4 g4 H locs hp4 hW => ?_)
        obtain ⟨hA4, hg4, v4⟩ := hp4
        have hqn4 : qn = A4 (i + 162 + 3 * j) := hqn.trans (hA4 _ (by omega)).symm
        have hA5 : ∀ k, k < i + 162 + 3 * j → A4 k = A1 k := fun k hk => (hA4 k (by omega)).trans (hA3 k hk)
        have hg5 : ∀ k, k < i + 162 + 3 * j → g4 k = g1 k := fun k hk => (hg4 k hk).trans (hg3 k hk)
        have hq4 : q2 = A4 (i + 2) := hq1.trans (hA5 _ (by omega)).symm
        have hf4 : g4 (i + 2) = aR E 2 16 f := (hg5 _ (by omega)).trans hf
        rw [hqn4, hq4]
        refine x_aast X hW (r := (RX0, TX0, 4)) (by omega) hf4 rfl (by omega) v4.1 rfl j rfl hj (by omega) dX10_init_146 (fun g5 H locs e5 hW => ?_)
        refine lv_iinc (v := iI ((((j + 1 : Nat)) : Int))) (lv' := [(1, .int (iI ((((j + 1 : Nat)) : Int)))), (0, .ref a0)]) X.1 X.2.1 dX10_init_147 hl (k := 0) rfl (by rw [show (Int32.ofInt (1)) = iI (1) from rfl, iI_add]; first | rfl | (congr 1; omega)) (by decide) rfl (fun ls hl => ?_)
        refine lv_goto (tgt := 125) X.1 X.2.1 dX10_init_150 (by decide) ?_
        refine W.widen (k := 161 + 3 * (j + 1)) (n := 1113 + 20 * (j + 1)) (by omega) (by omega) ?_
        have hne : ∀ k, k ≠ i + 2 → g5 k = g4 k := fun k hk => by rw [e5]; exact va_up_ne _ _ hk
        refine ih (j + 1) A4 g5 H locs ls (by omega) (by omega) (fun k hk => (hA5 k (by omega)).trans (hA1 k hk)) (fun k hk h3 => (hne k h3).trans ((hg5 k (by omega)).trans (hg1 k hk h3))) ⟨_, by rw [e5]; exact va_up_self _ _ _, fun k hk => ?_⟩ (fun k hk => ?_) (by rw [show i + 162 + 3 * (j + 1) = i + 162 + 3 * j + 1 + 2 from by omega]; exact hW) hl
        · by_cases hkj : k = j
          · rw [hkj]; exact va_up_self _ _ _
          · rw [va_up_ne _ _ hkj, hfk k (by omega), hA5 _ (by omega)]
        · by_cases hkj : k = j
          · rw [hkj]; exact v4.mv (fun _ _ _ => rfl) (fun k h1 h2 => hne k (by omega))
          · exact (hvs k (by omega)).mv (fun k h1 h2 => hA5 k (by omega)) (fun k h1 h2 => (hne k (by omega)).trans (hg5 k (by omega)))
  refine loopb _ (fun Aeb geb H locs ls hAeb hgeb harb hvsb hW hl => ?_) (16 + 1) 0 _ _ H locs ls (by omega) (by omega) (fun _ _ => rfl) (fun _ _ _ => rfl) ⟨_, f2, fun k hk => absurd hk (by omega)⟩ (fun k hk => absurd hk (by omega)) hW hl
  have ha : a0 = Aeb i := ha.trans (hAeb (i) (by omega)).symm
  have hAA : ∀ k, k < i + 1 → Aeb k = A k := fun k hk => (hAeb k (by omega)).trans (hAA k hk)
  have hGG : ∀ k, k < i → geb k = g k := fun k hk => (hgeb k (by omega) (by omega)).trans (hGG k hk)
  have ho : geb i = .inr (10, [.ref q1, .ref q2, .int (iI (0)), .ref q3, .ref q12, .ref q54, .ref q65, .ref q114, .ref q123]) := (hgeb (i) (by omega) (by omega)).trans ho
  have hq1 : q1 = Aeb (i + 1) := hq1.trans (hAeb (i + 1) (by omega)).symm
  have hq2 : q2 = Aeb (i + 2) := hq2.trans (hAeb (i + 2) (by omega)).symm
  have hq3 : q3 = Aeb (i + 3) := hq3.trans (hAeb (i + 3) (by omega)).symm
  have v3 : ResV E Aeb geb (i + 3) 0 1 := v3.mv (fun k h1 h2 => hAeb k (by omega)) (fun k h1 h2 => hgeb k (by omega) (by omega))
  have hq12 : q12 = Aeb (i + 12) := hq12.trans (hAeb (i + 12) (by omega)).symm
  have v12 : ComB E Aeb geb (i + 12) := v12.mv (fun k h1 h2 => hAeb k (by omega)) (fun k h1 h2 => hgeb k (by omega) (by omega))
  have hq54 : q54 = Aeb (i + 54) := hq54.trans (hAeb (i + 54) (by omega)).symm
  have v54 : PasV E Aeb geb (i + 54) (pr ppV 17) := v54.mv (fun k h1 h2 => hAeb k (by omega)) (fun k h1 h2 => hgeb k (by omega) (by omega))
  have hq65 : q65 = Aeb (i + 65) := hq65.trans (hAeb (i + 65) (by omega)).symm
  have v65 : RkV E Aeb geb (i + 65) (fun _ => 0) := v65.mv (fun k h1 h2 => hAeb k (by omega)) (fun k h1 h2 => hgeb k (by omega) (by omega))
  have hq114 : q114 = Aeb (i + 114) := hq114.trans (hAeb (i + 114) (by omega)).symm
  have v114 : HapV E Aeb geb (i + 114) 0 (fun _ => 0) (fun _ => 0) := v114.mv (fun k h1 h2 => hAeb k (by omega)) (fun k h1 h2 => hgeb k (by omega) (by omega))
  have hq123 : q123 = Aeb (i + 123) := hq123.trans (hAeb (i + 123) (by omega)).symm
  have v123 : BoxB E Aeb geb (i + 123) := v123.mv (fun k h1 h2 => hAeb k (by omega)) (fun k h1 h2 => hgeb k (by omega) (by omega))
  have hvsa : ∀ k, k < 10 → RowV E Aeb geb (i + 142 + 2 * k) 0 (-1) (fun _ => 0) := fun k hk => (hvsa k hk).mv (fun k h1 h2 => hAeb k (by omega)) (fun k h1 h2 => hgeb k (by omega) (by omega))
  have hara : ∃ f : Nat → Option Nat, geb (i + 1) = aR E 4 10 f ∧ ∀ k, k < 10 → f k = some (Aeb (i + 142 + 2 * k)) := by obtain ⟨f, h2, h3⟩ := hara; exact ⟨f, (hgeb (i + 1) (by omega) (by omega)).trans h2, fun k hk => by rw [h3 k hk, hAeb _ (by omega)]⟩
  have hW : wH E (wF A (i + 1) sz) Aeb (i + 210) s_ geb H locs := hW
  refine x_vretC X hr hlk hW (Nat.le_of_ble_eq_true rfl) (Nat.le_of_ble_eq_true rfl) ⟨hAA, hGG, ?_⟩ dX10_init_153
  rw [hq1, hq2, hq3, hq12, hq54, hq65, hq114, hq123] at ho
  exact ⟨ho, ⟨hara, hvsa⟩, ⟨harb, hvsb⟩, v3, v12, v54, v65, v114, v123⟩
