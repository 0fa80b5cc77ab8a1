theorem pp_bnd : ∀ j, j < 17 → ppV j ≤ 59 ∧ pr ppV j * ppV j < 10 ^ 54 := by decide +kernel
set_option maxHeartbeats 4000000 in
set_option maxRecDepth 100000 in
theorem c_X6_init (l : Launch) (E : wE) (A : Nat → Nat) (n sz : Nat) (g : Nat → va_E) (i : Nat) (hn : n = i + 1) (hg : g i = .inr (6, [.null, .null, .null, .null, .null])) : Met l yX6_init wsX6_init ({ frames := 2, cells := 10, slots := 35, locals := 120 } : Room) (va_Pc [.ref (A i)] (wPreC E A n sz g)) (va_Qv (fun u : (Nat → Nat) × (Nat → va_E) => (∀ k, k < n → u.1 k = A k) ∧ (∀ k, k < i → u.2 k = g k) ∧ PasV E u.1 u.2 i (pr ppV 17)) (wAtC E (wF A n sz) (n + 10)) (wF A n sz)) 10 35 (wF A n sz) := by
  subst hn
  refine x_metC (cc := cX6_init) (maxL := 2) (ret := none) [.ref (A i)] (by decide) rfl (Nat.le_of_ble_eq_true rfl) ?_
  intro p_ e_ s_ m_ args below meth c_ ls X hr hlk hnm hsz hW hO hl
  obtain ⟨a0, ha⟩ : ∃ a0, a0 = A i := ⟨_, rfl⟩
  have hl : lv_has ls 2 [(0, .ref a0)] := by rw [ha]; exact hl
  generalize ([] : List Loc) = locs at hW ⊢
  have w_0 : Cond.methodLink RX6 1 objectInit ∈ wsX6_init := by decide +kernel
  have w_1 : Cond.instanceMethod objectInit ∈ wsX6_init := by decide +kernel
  have w_2 : Cond.code objectInit ⟨#[0xb1]⟩ 1 none ∈ wsX6_init := List.mem_of_getElem? (i := 3) rfl
  have w_3 : Cond.classLink RX6 7 RX5 ∈ wsX6_init := by decide +kernel
  have w_4 : Cond.instantiable RX5 1 ∈ wsX6_init := by decide +kernel
  have w_5 : Cond.initialized RX5 ∈ wsX6_init := by decide +kernel
  have w_6 : ∀ w ∈ u_ws RX5 TX5 1, w ∈ wsX6_init := by decide +kernel
  have w_7 : Cond.instanceMethod yX5_init ∈ wsX6_init := by decide +kernel
  have w_8 : ∀ w ∈ u_ws RX6 TX6 5, w ∈ wsX6_init := by decide +kernel
  have w_9 : Cond.fieldLink RX6 10 (TX6 0).1 (TX6 0).2.1 (TX6 0).2.2.1 ∈ wsX6_init := by decide +kernel
  have w_10 : Cond.fieldLink RX6 16 (TX6 1).1 (TX6 1).2.1 (TX6 1).2.2.1 ∈ wsX6_init := by decide +kernel
  have w_11 : Cond.fieldLink RX6 19 (TX6 2).1 (TX6 2).2.1 (TX6 2).2.2.1 ∈ wsX6_init := by decide +kernel
  have w_12 : Cond.fieldLink RX6 22 (TX6 3).1 (TX6 3).2.1 (TX6 3).2.2.1 ∈ wsX6_init := by decide +kernel
  have w_13 : Cond.fieldLink RX6 25 (TX6 4).1 (TX6 4).2.1 (TX6 4).2.2.1 ∈ wsX6_init := by decide +kernel
  have w_14 : Cond.fieldLink RX6 32 RX6 "PRIME_POWERS" "[I" ∈ wsX6_init := by decide +kernel
  have hAA : ∀ k, k < i + 1 → A k = A k := fun _ _ => rfl
  have hGG : ∀ k, k < i → g k = g k := fun _ _ => rfl
  have ho : g i = .inr (6, [.null, .null, .null, .null, .null]) := hg
  refine lv_aload_n X.1 X.2.1 dX6_init_0 rfl (lv_at hl 0 rfl) ?_
  refine x_objInit X w_0 w_1 w_2 hl.1 (Nat.le_of_ble_eq_true rfl) (Nat.le_of_ble_eq_true rfl) dX6_init_1 ?_
  refine lv_aload_n X.1 X.2.1 dX6_init_4 rfl (lv_at hl 0 rfl) ?_
  refine x_new X hW (ci := 5) (fs := [.null]) rfl w_6 tyX5 tyX5_ok w_3 w_4 w_5 dfX5 (Nat.le_of_ble_eq_true rfl) (Nat.le_of_ble_eq_true rfl) dX6_init_5 (fun q1 A5 g5 H hq1 hA5 hg5 f1 hW => ?_)
  have ha : a0 = A5 i := ha.trans (hA5 (i) (by omega)).symm
  have hAA : ∀ k, k < i + 1 → A5 k = A k := fun k hk => (hA5 k (by omega)).trans (hAA k hk)
  have hGG : ∀ k, k < i → g5 k = g k := fun k hk => (hg5 k (by omega)).trans (hGG k hk)
  have ho : g5 i = .inr (6, [.null, .null, .null, .null, .null]) := (hg5 (i) (by omega)).trans ho
  have hW : wH E (wF A (i + 1) sz) A5 (i + 2) s_ g5 H locs := hW
  refine W.widen (k := 1) (n := 1) (Nat.le_of_ble_eq_true rfl) (Nat.le_of_ble_eq_true rfl) ?_
  refine lv_dup X.1 X.2.1 dX6_init_8 rfl ?_
  refine x_cIN X hW hO hq1 (c_X5_init l E A5 (i + 2) H.size g5 (i + 1) rfl f1) gX6_init_X5_init_n9 rfl rfl rfl (by decide) w_5 w_7 rfl (by decide +kernel) ⟨(Nat.le_of_ble_eq_true rfl), (Nat.le_of_ble_eq_true rfl)⟩ hl.1 (Nat.le_of_ble_eq_true rfl) dX6_init_9 ⟨(Nat.le_of_ble_eq_true rfl), (Nat.le_of_ble_eq_true rfl)⟩ (fun A9 g9 H locs hp9 hW => ?_)
  obtain ⟨hA9, hg9, v1⟩ := hp9
  have ha : a0 = A9 i := ha.trans (hA9 (i) (by omega)).symm
  have hAA : ∀ k, k < i + 1 → A9 k = A k := fun k hk => (hA9 k (by omega)).trans (hAA k hk)
  have hGG : ∀ k, k < i → g9 k = g k := fun k hk => (hg9 k (by omega)).trans (hGG k hk)
  have ho : g9 i = .inr (6, [.null, .null, .null, .null, .null]) := (hg9 (i) (by omega)).trans ho
  have hq1 : q1 = A9 (i + 1) := hq1.trans (hA9 (i + 1) (by omega)).symm
  have hW : wH E (wF A (i + 1) sz) A9 (i + 3) s_ g9 H locs := hW
  refine W.widen (k := 2) (n := 7) (Nat.le_of_ble_eq_true rfl) (Nat.le_of_ble_eq_true rfl) ?_
  refine xc_putF X hnm hW (v := .ref q1) ha (by omega) ho rfl w_8 tyX6 tyX6_ok nmX6 0 (by decide) w_9 rfl rfl rfl rfl (by show 0 < 5; decide) dX6_init_12 (fun g12 H locs ho hg12 hW => ?_)
  have ho : g12 i = .inr (6, [.ref q1, .null, .null, .null, .null]) := ho
  have hGG : ∀ k, k < i → g12 k = g k := fun k hk => (hg12 k (by omega)).trans (hGG k hk)
  have v1 : NatV E A9 g12 (i + 1) 0 := v1.mv (fun _ _ _ => rfl) (fun k h1 h2 => hg12 k (by omega))
  have hW : wH E (wF A (i + 1) sz) A9 (i + 3) s_ g12 H locs := hW
  refine lv_aload_n X.1 X.2.1 dX6_init_15 rfl (lv_at hl 0 rfl) ?_
  refine x_new X hW (ci := 5) (fs := [.null]) rfl w_6 tyX5 tyX5_ok w_3 w_4 w_5 dfX5 (Nat.le_of_ble_eq_true rfl) (Nat.le_of_ble_eq_true rfl) dX6_init_16 (fun q3 A16 g16 H hq3 hA16 hg16 f3 hW => ?_)
  have ha : a0 = A16 i := ha.trans (hA16 (i) (by omega)).symm
  have hAA : ∀ k, k < i + 1 → A16 k = A k := fun k hk => (hA16 k (by omega)).trans (hAA k hk)
  have hGG : ∀ k, k < i → g16 k = g k := fun k hk => (hg16 k (by omega)).trans (hGG k hk)
  have ho : g16 i = .inr (6, [.ref q1, .null, .null, .null, .null]) := (hg16 (i) (by omega)).trans ho
  have hq1 : q1 = A16 (i + 1) := hq1.trans (hA16 (i + 1) (by omega)).symm
  have v1 : NatV E A16 g16 (i + 1) 0 := v1.mv (fun k h1 h2 => hA16 k (by omega)) (fun k h1 h2 => hg16 k (by omega))
  have hW : wH E (wF A (i + 1) sz) A16 (i + 4) s_ g16 H locs := hW
  refine W.widen (k := 3) (n := 8) (Nat.le_of_ble_eq_true rfl) (Nat.le_of_ble_eq_true rfl) ?_
  refine lv_dup X.1 X.2.1 dX6_init_19 rfl ?_
  refine x_cIN X hW hO hq3 (c_X5_init l E A16 (i + 4) H.size g16 (i + 3) rfl f3) gX6_init_X5_init_n9 rfl rfl rfl (by decide) w_5 w_7 rfl (by decide +kernel) ⟨(Nat.le_of_ble_eq_true rfl), (Nat.le_of_ble_eq_true rfl)⟩ hl.1 (Nat.le_of_ble_eq_true rfl) dX6_init_20 ⟨(Nat.le_of_ble_eq_true rfl), (Nat.le_of_ble_eq_true rfl)⟩ (fun A20 g20 H locs hp20 hW => ?_)
  obtain ⟨hA20, hg20, v3⟩ := hp20
  have ha : a0 = A20 i := ha.trans (hA20 (i) (by omega)).symm
  have hAA : ∀ k, k < i + 1 → A20 k = A k := fun k hk => (hA20 k (by omega)).trans (hAA k hk)
  have hGG : ∀ k, k < i → g20 k = g k := fun k hk => (hg20 k (by omega)).trans (hGG k hk)
  have ho : g20 i = .inr (6, [.ref q1, .null, .null, .null, .null]) := (hg20 (i) (by omega)).trans ho
  have hq1 : q1 = A20 (i + 1) := hq1.trans (hA20 (i + 1) (by omega)).symm
  have v1 : NatV E A20 g20 (i + 1) 0 := v1.mv (fun k h1 h2 => hA20 k (by omega)) (fun k h1 h2 => hg20 k (by omega))
  have hq3 : q3 = A20 (i + 3) := hq3.trans (hA20 (i + 3) (by omega)).symm
  have hW : wH E (wF A (i + 1) sz) A20 (i + 5) s_ g20 H locs := hW
  refine W.widen (k := 4) (n := 14) (Nat.le_of_ble_eq_true rfl) (Nat.le_of_ble_eq_true rfl) ?_
  refine xc_putF X hnm hW (v := .ref q3) ha (by omega) ho rfl w_8 tyX6 tyX6_ok nmX6 1 (by decide) w_10 rfl rfl rfl rfl (by show 1 < 5; decide) dX6_init_23 (fun g23 H locs ho hg23 hW => ?_)
  have ho : g23 i = .inr (6, [.ref q1, .ref q3, .null, .null, .null]) := ho
  have hGG : ∀ k, k < i → g23 k = g k := fun k hk => (hg23 k (by omega)).trans (hGG k hk)
  have v1 : NatV E A20 g23 (i + 1) 0 := v1.mv (fun _ _ _ => rfl) (fun k h1 h2 => hg23 k (by omega))
  have v3 : NatV E A20 g23 (i + 3) 0 := v3.mv (fun _ _ _ => rfl) (fun k h1 h2 => hg23 k (by omega))
  have hW : wH E (wF A (i + 1) sz) A20 (i + 5) s_ g23 H locs := hW
  refine lv_aload_n X.1 X.2.1 dX6_init_26 rfl (lv_at hl 0 rfl) ?_
  refine x_new X hW (ci := 5) (fs := [.null]) rfl w_6 tyX5 tyX5_ok w_3 w_4 w_5 dfX5 (Nat.le_of_ble_eq_true rfl) (Nat.le_of_ble_eq_true rfl) dX6_init_27 (fun q5 A27 g27 H hq5 hA27 hg27 f5 hW => ?_)
  have ha : a0 = A27 i := ha.trans (hA27 (i) (by omega)).symm
  have hAA : ∀ k, k < i + 1 → A27 k = A k := fun k hk => (hA27 k (by omega)).trans (hAA k hk)
  have hGG : ∀ k, k < i → g27 k = g k := fun k hk => (hg27 k (by omega)).trans (hGG k hk)
  have ho : g27 i = .inr (6, [.ref q1, .ref q3, .null, .null, .null]) := (hg27 (i) (by omega)).trans ho
  have hq1 : q1 = A27 (i + 1) := hq1.trans (hA27 (i + 1) (by omega)).symm
  have v1 : NatV E A27 g27 (i + 1) 0 := v1.mv (fun k h1 h2 => hA27 k (by omega)) (fun k h1 h2 => hg27 k (by omega))
  have hq3 : q3 = A27 (i + 3) := hq3.trans (hA27 (i + 3) (by omega)).symm
  have v3 : NatV E A27 g27 (i + 3) 0 := v3.mv (fun k h1 h2 => hA27 k (by omega)) (fun k h1 h2 => hg27 k (by omega))
  have hW : wH E (wF A (i + 1) sz) A27 (i + 6) s_ g27 H locs := hW
  refine W.widen (k := 5) (n := 15) (Nat.le_of_ble_eq_true rfl) (Nat.le_of_ble_eq_true rfl) ?_
  refine lv_dup X.1 X.2.1 dX6_init_30 rfl ?_
  refine x_cIN X hW hO hq5 (c_X5_init l E A27 (i + 6) H.size g27 (i + 5) rfl f5) gX6_init_X5_init_n9 rfl rfl rfl (by decide) w_5 w_7 rfl (by decide +kernel) ⟨(Nat.le_of_ble_eq_true rfl), (Nat.le_of_ble_eq_true rfl)⟩ hl.1 (Nat.le_of_ble_eq_true rfl) dX6_init_31 ⟨(Nat.le_of_ble_eq_true rfl), (Nat.le_of_ble_eq_true rfl)⟩ (fun A31 g31 H locs hp31 hW => ?_)
  obtain ⟨hA31, hg31, v5⟩ := hp31
  have ha : a0 = A31 i := ha.trans (hA31 (i) (by omega)).symm
  have hAA : ∀ k, k < i + 1 → A31 k = A k := fun k hk => (hA31 k (by omega)).trans (hAA k hk)
  have hGG : ∀ k, k < i → g31 k = g k := fun k hk => (hg31 k (by omega)).trans (hGG k hk)
  have ho : g31 i = .inr (6, [.ref q1, .ref q3, .null, .null, .null]) := (hg31 (i) (by omega)).trans ho
  have hq1 : q1 = A31 (i + 1) := hq1.trans (hA31 (i + 1) (by omega)).symm
  have v1 : NatV E A31 g31 (i + 1) 0 := v1.mv (fun k h1 h2 => hA31 k (by omega)) (fun k h1 h2 => hg31 k (by omega))
  have hq3 : q3 = A31 (i + 3) := hq3.trans (hA31 (i + 3) (by omega)).symm
  have v3 : NatV E A31 g31 (i + 3) 0 := v3.mv (fun k h1 h2 => hA31 k (by omega)) (fun k h1 h2 => hg31 k (by omega))
  have hq5 : q5 = A31 (i + 5) := hq5.trans (hA31 (i + 5) (by omega)).symm
  have hW : wH E (wF A (i + 1) sz) A31 (i + 7) s_ g31 H locs := hW
  refine W.widen (k := 6) (n := 21) (Nat.le_of_ble_eq_true rfl) (Nat.le_of_ble_eq_true rfl) ?_
  refine xc_putF X hnm hW (v := .ref q5) ha (by omega) ho rfl w_8 tyX6 tyX6_ok nmX6 2 (by decide) w_11 rfl rfl rfl rfl (by show 2 < 5; decide) dX6_init_34 (fun g34 H locs ho hg34 hW => ?_)
  have ho : g34 i = .inr (6, [.ref q1, .ref q3, .ref q5, .null, .null]) := ho
  have hGG : ∀ k, k < i → g34 k = g k := fun k hk => (hg34 k (by omega)).trans (hGG k hk)
  have v1 : NatV E A31 g34 (i + 1) 0 := v1.mv (fun _ _ _ => rfl) (fun k h1 h2 => hg34 k (by omega))
  have v3 : NatV E A31 g34 (i + 3) 0 := v3.mv (fun _ _ _ => rfl) (fun k h1 h2 => hg34 k (by omega))
  have v5 : NatV E A31 g34 (i + 5) 0 := v5.mv (fun _ _ _ => rfl) (fun k h1 h2 => hg34 k (by omega))
  have hW : wH E (wF A (i + 1) sz) A31 (i + 7) s_ g34 H locs := hW
  refine lv_aload_n X.1 X.2.1 dX6_init_37 rfl (lv_at hl 0 rfl) ?_
  refine x_new X hW (ci := 5) (fs := [.null]) rfl w_6 tyX5 tyX5_ok w_3 w_4 w_5 dfX5 (Nat.le_of_ble_eq_true rfl) (Nat.le_of_ble_eq_true rfl) dX6_init_38 (fun q7 A38 g38 H hq7 hA38 hg38 f7 hW => ?_)
  have ha : a0 = A38 i := ha.trans (hA38 (i) (by omega)).symm
  have hAA : ∀ k, k < i + 1 → A38 k = A k := fun k hk => (hA38 k (by omega)).trans (hAA k hk)
  have hGG : ∀ k, k < i → g38 k = g k := fun k hk => (hg38 k (by omega)).trans (hGG k hk)
  have ho : g38 i = .inr (6, [.ref q1, .ref q3, .ref q5, .null, .null]) := (hg38 (i) (by omega)).trans ho
  have hq1 : q1 = A38 (i + 1) := hq1.trans (hA38 (i + 1) (by omega)).symm
  have v1 : NatV E A38 g38 (i + 1) 0 := v1.mv (fun k h1 h2 => hA38 k (by omega)) (fun k h1 h2 => hg38 k (by omega))
  have hq3 : q3 = A38 (i + 3) := hq3.trans (hA38 (i + 3) (by omega)).symm
  have v3 : NatV E A38 g38 (i + 3) 0 := v3.mv (fun k h1 h2 => hA38 k (by omega)) (fun k h1 h2 => hg38 k (by omega))
  have hq5 : q5 = A38 (i + 5) := hq5.trans (hA38 (i + 5) (by omega)).symm
  have v5 : NatV E A38 g38 (i + 5) 0 := v5.mv (fun k h1 h2 => hA38 k (by omega)) (fun k h1 h2 => hg38 k (by omega))
  have hW : wH E (wF A (i + 1) sz) A38 (i + 8) s_ g38 H locs := hW
  refine W.widen (k := 7) (n := 22) (Nat.le_of_ble_eq_true rfl) (Nat.le_of_ble_eq_true rfl) ?_
  refine lv_dup X.1 X.2.1 dX6_init_41 rfl ?_
  refine x_cIN X hW hO hq7 (c_X5_init l E A38 (i + 8) H.size g38 (i + 7) rfl f7) gX6_init_X5_init_n9 rfl rfl rfl (by decide) w_5 w_7 rfl (by decide +kernel) ⟨(Nat.le_of_ble_eq_true rfl), (Nat.le_of_ble_eq_true rfl)⟩ hl.1 (Nat.le_of_ble_eq_true rfl) dX6_init_42 ⟨(Nat.le_of_ble_eq_true rfl), (Nat.le_of_ble_eq_true rfl)⟩ (fun A42 g42 H locs hp42 hW => ?_)
  obtain ⟨hA42, hg42, v7⟩ := hp42
  have ha : a0 = A42 i := ha.trans (hA42 (i) (by omega)).symm
  have hAA : ∀ k, k < i + 1 → A42 k = A k := fun k hk => (hA42 k (by omega)).trans (hAA k hk)
  have hGG : ∀ k, k < i → g42 k = g k := fun k hk => (hg42 k (by omega)).trans (hGG k hk)
  have ho : g42 i = .inr (6, [.ref q1, .ref q3, .ref q5, .null, .null]) := (hg42 (i) (by omega)).trans ho
  have hq1 : q1 = A42 (i + 1) := hq1.trans (hA42 (i + 1) (by omega)).symm
  have v1 : NatV E A42 g42 (i + 1) 0 := v1.mv (fun k h1 h2 => hA42 k (by omega)) (fun k h1 h2 => hg42 k (by omega))
  have hq3 : q3 = A42 (i + 3) := hq3.trans (hA42 (i + 3) (by omega)).symm
  have v3 : NatV E A42 g42 (i + 3) 0 := v3.mv (fun k h1 h2 => hA42 k (by omega)) (fun k h1 h2 => hg42 k (by omega))
  have hq5 : q5 = A42 (i + 5) := hq5.trans (hA42 (i + 5) (by omega)).symm
  have v5 : NatV E A42 g42 (i + 5) 0 := v5.mv (fun k h1 h2 => hA42 k (by omega)) (fun k h1 h2 => hg42 k (by omega))
  have hq7 : q7 = A42 (i + 7) := hq7.trans (hA42 (i + 7) (by omega)).symm
  have hW : wH E (wF A (i + 1) sz) A42 (i + 9) s_ g42 H locs := hW
  refine W.widen (k := 8) (n := 28) (Nat.le_of_ble_eq_true rfl) (Nat.le_of_ble_eq_true rfl) ?_
  refine xc_putF X hnm hW (v := .ref q7) ha (by omega) ho rfl w_8 tyX6 tyX6_ok nmX6 3 (by decide) w_12 rfl rfl rfl rfl (by show 3 < 5; decide) dX6_init_45 (fun g45 H locs ho hg45 hW => ?_)
  have ho : g45 i = .inr (6, [.ref q1, .ref q3, .ref q5, .ref q7, .null]) := ho
  have hGG : ∀ k, k < i → g45 k = g k := fun k hk => (hg45 k (by omega)).trans (hGG k hk)
  have v1 : NatV E A42 g45 (i + 1) 0 := v1.mv (fun _ _ _ => rfl) (fun k h1 h2 => hg45 k (by omega))
  have v3 : NatV E A42 g45 (i + 3) 0 := v3.mv (fun _ _ _ => rfl) (fun k h1 h2 => hg45 k (by omega))
  have v5 : NatV E A42 g45 (i + 5) 0 := v5.mv (fun _ _ _ => rfl) (fun k h1 h2 => hg45 k (by omega))
  have v7 : NatV E A42 g45 (i + 7) 0 := v7.mv (fun _ _ _ => rfl) (fun k h1 h2 => hg45 k (by omega))
  have hW : wH E (wF A (i + 1) sz) A42 (i + 9) s_ g45 H locs := hW
  refine lv_aload_n X.1 X.2.1 dX6_init_48 rfl (lv_at hl 0 rfl) ?_
  refine x_new X hW (ci := 5) (fs := [.null]) rfl w_6 tyX5 tyX5_ok w_3 w_4 w_5 dfX5 (Nat.le_of_ble_eq_true rfl) (Nat.le_of_ble_eq_true rfl) dX6_init_49 (fun q9 A49 g49 H hq9 hA49 hg49 f9 hW => ?_)
  have ha : a0 = A49 i := ha.trans (hA49 (i) (by omega)).symm
  have hAA : ∀ k, k < i + 1 → A49 k = A k := fun k hk => (hA49 k (by omega)).trans (hAA k hk)
  have hGG : ∀ k, k < i → g49 k = g k := fun k hk => (hg49 k (by omega)).trans (hGG k hk)
  have ho : g49 i = .inr (6, [.ref q1, .ref q3, .ref q5, .ref q7, .null]) := (hg49 (i) (by omega)).trans ho
  have hq1 : q1 = A49 (i + 1) := hq1.trans (hA49 (i + 1) (by omega)).symm
  have v1 : NatV E A49 g49 (i + 1) 0 := v1.mv (fun k h1 h2 => hA49 k (by omega)) (fun k h1 h2 => hg49 k (by omega))
  have hq3 : q3 = A49 (i + 3) := hq3.trans (hA49 (i + 3) (by omega)).symm
  have v3 : NatV E A49 g49 (i + 3) 0 := v3.mv (fun k h1 h2 => hA49 k (by omega)) (fun k h1 h2 => hg49 k (by omega))
  have hq5 : q5 = A49 (i + 5) := hq5.trans (hA49 (i + 5) (by omega)).symm
  have v5 : NatV E A49 g49 (i + 5) 0 := v5.mv (fun k h1 h2 => hA49 k (by omega)) (fun k h1 h2 => hg49 k (by omega))
  have hq7 : q7 = A49 (i + 7) := hq7.trans (hA49 (i + 7) (by omega)).symm
  have v7 : NatV E A49 g49 (i + 7) 0 := v7.mv (fun k h1 h2 => hA49 k (by omega)) (fun k h1 h2 => hg49 k (by omega))
  have hW : wH E (wF A (i + 1) sz) A49 (i + 10) s_ g49 H locs := hW
  refine W.widen (k := 9) (n := 29) (Nat.le_of_ble_eq_true rfl) (Nat.le_of_ble_eq_true rfl) ?_
  refine lv_dup X.1 X.2.1 dX6_init_52 rfl ?_
  refine x_cIN X hW hO hq9 (c_X5_init l E A49 (i + 10) H.size g49 (i + 9) rfl f9) gX6_init_X5_init_n9 rfl rfl rfl (by decide) w_5 w_7 rfl (by decide +kernel) ⟨(Nat.le_of_ble_eq_true rfl), (Nat.le_of_ble_eq_true rfl)⟩ hl.1 (Nat.le_of_ble_eq_true rfl) dX6_init_53 ⟨(Nat.le_of_ble_eq_true rfl), (Nat.le_of_ble_eq_true rfl)⟩ (fun A53 g53 H locs hp53 hW => ?_)
  obtain ⟨hA53, hg53, v9⟩ := hp53
  have ha : a0 = A53 i := ha.trans (hA53 (i) (by omega)).symm
  have hAA : ∀ k, k < i + 1 → A53 k = A k := fun k hk => (hA53 k (by omega)).trans (hAA k hk)
  have hGG : ∀ k, k < i → g53 k = g k := fun k hk => (hg53 k (by omega)).trans (hGG k hk)
  have ho : g53 i = .inr (6, [.ref q1, .ref q3, .ref q5, .ref q7, .null]) := (hg53 (i) (by omega)).trans ho
  have hq1 : q1 = A53 (i + 1) := hq1.trans (hA53 (i + 1) (by omega)).symm
  have v1 : NatV E A53 g53 (i + 1) 0 := v1.mv (fun k h1 h2 => hA53 k (by omega)) (fun k h1 h2 => hg53 k (by omega))
  have hq3 : q3 = A53 (i + 3) := hq3.trans (hA53 (i + 3) (by omega)).symm
  have v3 : NatV E A53 g53 (i + 3) 0 := v3.mv (fun k h1 h2 => hA53 k (by omega)) (fun k h1 h2 => hg53 k (by omega))
  have hq5 : q5 = A53 (i + 5) := hq5.trans (hA53 (i + 5) (by omega)).symm
  have v5 : NatV E A53 g53 (i + 5) 0 := v5.mv (fun k h1 h2 => hA53 k (by omega)) (fun k h1 h2 => hg53 k (by omega))
  have hq7 : q7 = A53 (i + 7) := hq7.trans (hA53 (i + 7) (by omega)).symm
  have v7 : NatV E A53 g53 (i + 7) 0 := v7.mv (fun k h1 h2 => hA53 k (by omega)) (fun k h1 h2 => hg53 k (by omega))
  have hq9 : q9 = A53 (i + 9) := hq9.trans (hA53 (i + 9) (by omega)).symm
  have hW : wH E (wF A (i + 1) sz) A53 (i + 11) s_ g53 H locs := hW
  refine W.widen (k := 10) (n := 35) (Nat.le_of_ble_eq_true rfl) (Nat.le_of_ble_eq_true rfl) ?_
  refine xc_putF X hnm hW (v := .ref q9) ha (by omega) ho rfl w_8 tyX6 tyX6_ok nmX6 4 (by decide) w_13 rfl rfl rfl rfl (by show 4 < 5; decide) dX6_init_56 (fun g56 H locs ho hg56 hW => ?_)
  have ho : g56 i = .inr (6, [.ref q1, .ref q3, .ref q5, .ref q7, .ref q9]) := ho
  have hGG : ∀ k, k < i → g56 k = g k := fun k hk => (hg56 k (by omega)).trans (hGG k hk)
  have v1 : NatV E A53 g56 (i + 1) 0 := v1.mv (fun _ _ _ => rfl) (fun k h1 h2 => hg56 k (by omega))
  have v3 : NatV E A53 g56 (i + 3) 0 := v3.mv (fun _ _ _ => rfl) (fun k h1 h2 => hg56 k (by omega))
  have v5 : NatV E A53 g56 (i + 5) 0 := v5.mv (fun _ _ _ => rfl) (fun k h1 h2 => hg56 k (by omega))
  have v7 : NatV E A53 g56 (i + 7) 0 := v7.mv (fun _ _ _ => rfl) (fun k h1 h2 => hg56 k (by omega))
  have v9 : NatV E A53 g56 (i + 9) 0 := v9.mv (fun _ _ _ => rfl) (fun k h1 h2 => hg56 k (by omega))
  have hW : wH E (wF A (i + 1) sz) A53 (i + 11) s_ g56 H locs := hW
  refine lv_aload_n X.1 X.2.1 dX6_init_59 rfl (lv_at hl 0 rfl) ?_
  refine xc_get X hW ha (by omega) ho rfl w_8 0 (by decide) w_9 rfl dX6_init_60 ?_
  refine x_lconst X 1 (by decide) dX6_init_63 ?_
  rw [hq1]
  refine x_cv (x_runV (As := [.long (lI 1)]) (k := 1) X hW (c_X5_put l E A53 (i + 11) H.size g56 (i + 1) 1 (by omega) v1.any (by decide)) (by omega) v1.2.1 rfl gX6_init_X5_put rfl rfl rfl (by decide +kernel) ⟨(Nat.le_of_ble_eq_true rfl), (Nat.le_of_ble_eq_true rfl)⟩ rfl hl.1 rfl (Nat.le_of_ble_eq_true rfl) dX6_init_64 ⟨(Nat.le_of_ble_eq_true rfl), (Nat.le_of_ble_eq_true rfl)⟩) hW (fun g64 H locs hp64 hW => ?_)
  obtain ⟨v1, hg64⟩ := hp64
  have hGG : ∀ k, k < i → g64 k = g k := fun k hk => (hg64 k (by omega)).trans (hGG k hk)
  have ho : g64 i = .inr (6, [.ref q1, .ref q3, .ref q5, .ref q7, .ref q9]) := (hg64 (i) (by omega)).trans ho
  have v3 : NatV E A53 g64 (i + 3) 0 := v3.mv (fun _ _ _ => rfl) (fun k h1 h2 => hg64 k (by omega))
  have v5 : NatV E A53 g64 (i + 5) 0 := v5.mv (fun _ _ _ => rfl) (fun k h1 h2 => hg64 k (by omega))
  have v7 : NatV E A53 g64 (i + 7) 0 := v7.mv (fun _ _ _ => rfl) (fun k h1 h2 => hg64 k (by omega))
  have v9 : NatV E A53 g64 (i + 9) 0 := v9.mv (fun _ _ _ => rfl) (fun k h1 h2 => hg64 k (by omega))
  refine x_iconst X dX6_init_67 ?_
  refine lv_istore_n (lv' := [(1, .int (iI (((0 : Nat) : Int)))), (0, .ref a0)]) X.1 X.2.1 dX6_init_68 rfl hl (by decide) rfl (fun ls hl => ?_)
  have loop : ∀ Q : State → Prop, (∀ (g2 : Nat → va_E) (H : Heap) (locs : List Loc) (ls : Array Slot), (∀ k, k ≠ i + 2 → g2 k = g64 k) → NatV E A53 g2 (i + 1) (pr ppV 17) → wH E (wF A (i + 1) sz) A53 (i + 11) s_ g2 H locs → W p_ l e_ ({ frames := 2, cells := 10, slots := 35, locals := 120 } : Room) s_ m_ args below meth c_ H locs 10 35 Q (F0 m_ 96 ls [])) → ∀ (d j : Nat) (g1 : Nat → va_E) (H : Heap) (locs : List Loc) (ls : Array Slot), j ≤ 17 → 18 ≤ j + d → (∀ k, k ≠ i + 2 → g1 k = g64 k) → NatV E A53 g1 (i + 1) (pr ppV j) → wH E (wF A (i + 1) sz) A53 (i + 11) s_ g1 H locs → lv_has ls 2 [(1, .int (iI (((j : Nat) : Int)))), (0, .ref a0)] → W p_ l e_ ({ frames := 2, cells := 10, slots := 35, locals := 120 } : Room) s_ m_ args below meth c_ H locs 10 35 Q (F0 m_ 69 ls []) := by
    intro Q kont d
    induction d with
    | zero => intro j g1 H locs ls h1 h2; exact absurd h2 (by omega)
    | succ d ih =>
      intro j g1 H locs ls h1 h2 hg1 hv hW hl
      have ho1 : g1 i = .inr (6, [.ref q1, .ref q3, .ref q5, .ref q7, .ref q9]) := (hg1 i (by omega)).trans ho
      refine lv_iload_n X.1 X.2.1 dX6_init_69 rfl (lv_at hl 0 rfl) ?_
      refine x_getpp X hW w_14 dX6_init_70 ?_
      refine x_pplen X hW dX6_init_73 ?_
      refine x_icmp_ge (tgt := 96) X (by unfold I32; omega) (by unfold I32; omega) dX6_init_74 (by decide) (fun b_ => ?_) (fun b_ => ?_)
      · obtain rfl : j = 17 := by omega
        exact kont g1 H locs ls hg1 hv hW
      · have hj : j < 17 := by omega
        refine lv_aload_n X.1 X.2.1 dX6_init_77 rfl (lv_at hl 1 rfl) ?_
        refine xc_get X hW ha (by omega) ho1 rfl w_8 0 (by decide) w_9 rfl dX6_init_78 ?_
        refine x_getpp X hW w_14 dX6_init_81 ?_
        refine lv_iload_n X.1 X.2.1 dX6_init_84 rfl (lv_at hl 0 rfl) ?_
        refine x_ppald X hW j rfl hj dX6_init_85 ?_
        have hb := pp_bnd j hj
        refine x_i2l X (by unfold I32; omega) dX6_init_86 ?_
        rw [hq1]
        refine x_cv (x_runV (As := [.long (lI ((ppV j : Nat) : Int))]) (k := 1) X hW (c_X5_times l E A53 (i + 11) H.size g1 (i + 1) (pr ppV j) (ppV j) (by omega) hv (by omega) hb.2) (by omega) hv.2.1 rfl gX6_init_X5_times rfl rfl rfl (by decide +kernel) ⟨(Nat.le_of_ble_eq_true rfl), (Nat.le_of_ble_eq_true rfl)⟩ rfl hl.1 rfl (Nat.le_of_ble_eq_true rfl) dX6_init_87 ⟨(Nat.le_of_ble_eq_true rfl), (Nat.le_of_ble_eq_true rfl)⟩) hW (fun g5 H locs hp5 hW => ?_)
        obtain ⟨v5, hg5⟩ := hp5
        refine lv_iinc (v := iI ((((j + 1 : Nat)) : Int))) (lv' := [(1, .int (iI ((((j + 1 : Nat)) : Int)))), (0, .ref a0)]) X.1 X.2.1 dX6_init_90 hl (k := 0) rfl (by rw [show (Int32.ofInt (1)) = iI (1) from rfl, iI_add]; first | rfl | (congr 1; omega)) (by decide) rfl (fun ls hl => ?_)
        refine lv_goto (tgt := 69) X.1 X.2.1 dX6_init_93 (by decide) ?_
        exact ih (j + 1) g5 H locs ls (by omega) (by omega) (fun k hk => (hg5 k (by omega)).trans (hg1 k hk)) v5 hW hl
  refine loop _ (fun ge H locs ls hge v1 hW => ?_) 18 0 _ H locs ls (by omega) (by omega) (fun _ _ => rfl) v1 hW hl
  have hGG : ∀ k, k < i → ge k = g k := fun k hk => (hge k (by omega)).trans (hGG k hk)
  have ho : ge i = .inr (6, [.ref q1, .ref q3, .ref q5, .ref q7, .ref q9]) := (hge (i) (by omega)).trans ho
  have v3 : NatV E A53 ge (i + 3) 0 := v3.mv (fun _ _ _ => rfl) (fun k h1 h2 => hge k (by omega))
  have v5 : NatV E A53 ge (i + 5) 0 := v5.mv (fun _ _ _ => rfl) (fun k h1 h2 => hge k (by omega))
  have v7 : NatV E A53 ge (i + 7) 0 := v7.mv (fun _ _ _ => rfl) (fun k h1 h2 => hge k (by omega))
  have v9 : NatV E A53 ge (i + 9) 0 := v9.mv (fun _ _ _ => rfl) (fun k h1 h2 => hge k (by omega))
  refine x_vretC X hr hlk hW (Nat.le_of_ble_eq_true rfl) (Nat.le_of_ble_eq_true rfl) ⟨hAA, hGG, ?_⟩ dX6_init_96
  rw [hq1, hq3, hq5, hq7, hq9] at ho
  exact ⟨ho, v1, v3.any, v5.any, v7.any, v9.any⟩
