def ModB (E : wE) (A : Nat → Nat) (g : Nat → va_E) (i : Nat) : Prop := g i = mO A i (fun _ => 0) ∧ MR E A g i 0 1 ∧ g (i + 2) = aI E 10 (fun _ => 0) ∧ g (i + 3) = aI E 10 (fun _ => 0) ∧ g (i + 4) = aJ E 400 (fun _ => 0) ∧ g (i + 5) = aI E 16 (fun _ => 0) ∧ g (i + 6) = aI E 128 (fun _ => 0) ∧ g (i + 7) = aI E 128 (fun _ => 0) ∧ g (i + 8) = aI E 16 (fun _ => 0) ∧ g (i + 9) = aI E 10 (fun _ => 0) ∧ g (i + 10) = aI E 10 (fun _ => 0) ∧ g (i + 11) = aI E 21 (fun _ => 0) ∧ g (i + 12) = aI E 20 (fun _ => 0) ∧ g (i + 13) = aI E 20 (fun _ => 0) ∧ g (i + 14) = aI E 6 (fun _ => 0) ∧ g (i + 15) = aI E 6 (fun _ => 0) ∧ g (i + 16) = aI E 50 (fun _ => 0)
theorem MN_zero {E : wE} {A : Nat → Nat} {g : Nat → va_E} {i : Nat} (h : g (i + 1) = aJ E 40000 (fun _ => 0)) : MN E A g i (fun _ => 0) := by
  refine ⟨_, h, fun a ha => ⟨by show -(10 ^ 80) < (0 : Int); decide, by show (0 : Int) < 10 ^ 80; decide, fun k hk => ?_⟩⟩
  show (0 : Int64) = lI (lm 0 k)
  have e : lm 0 k = 0 := by
    rcases (show k = 0 ∨ k = 1 ∨ k = 2 ∨ k = 3 ∨ k = 4 ∨ k = 5 ∨ k = 6 ∨ k = 7 ∨ k = 8 ∨ k = 9 by omega) with h | h | h | h | h | h | h | h | h | h <;> subst h <;> decide
  rw [e]
  rfl
set_option maxHeartbeats 4000000 in
set_option maxRecDepth 100000 in
theorem c_X11_init (l : Launch) (E : wE) (A : Nat → Nat) (n sz : Nat) (g : Nat → va_E) (i : Nat) (hn : n = i + 1) (hg : g i = .inr (11, [.null, .null, .null, .null, .int 0, .null, .null, .null, .null, .int 0, .null, .null, .null, .int 0, .null, .null, .int 0, .null, .null, .null, .int 0])) : Met l yX11_init wsX11_init ({ frames := 4, cells := 16, slots := 40851, locals := 140 } : Room) (va_Pc [.ref (A i)] (wPreC E A n sz g)) (va_Qv (fun u : (Nat → Nat) × (Nat → va_E) => (∀ k, k < n → u.1 k = A k) ∧ (∀ k, k < i → u.2 k = g k) ∧ ModB E u.1 u.2 i) (wAtC E (wF A n sz) (n + 16)) (wF A n sz)) 16 40851 (wF A n sz) := by
  subst hn
  refine x_metC (cc := cX11_init) (maxL := 1) (ret := none) [.ref (A i)] (by decide) rfl (Nat.le_of_ble_eq_true rfl) ?_
  intro p_ e_ s_ m_ args below meth c_ ls X hr hlk hnm hsz hW hO hl
  obtain ⟨a0, ha⟩ : ∃ a0, a0 = A i := ⟨_, rfl⟩
  have hl : lv_has ls 1 [(0, .ref a0)] := by rw [ha]; exact hl
  generalize ([] : List Loc) = locs at hW ⊢
  have w_0 : Cond.methodLink RX11 1 objectInit ∈ wsX11_init := by decide +kernel
  have w_1 : Cond.instanceMethod objectInit ∈ wsX11_init := by decide +kernel
  have w_2 : Cond.code objectInit ⟨#[0xb1]⟩ 1 none ∈ wsX11_init := List.mem_of_getElem? (i := 3) rfl
  have w_3 : Cond.constant RX11 9 (40000) ∈ wsX11_init := by decide +kernel
  have w_4 : Cond.arrayClass .long ∈ wsX11_init := by decide +kernel
  have w_5 : ∀ w ∈ u_ws RX11 TX11 21, w ∈ wsX11_init := by decide +kernel
  have w_6 : Cond.fieldLink RX11 10 (TX11 0).1 (TX11 0).2.1 (TX11 0).2.2.1 ∈ wsX11_init := by decide +kernel
  have w_7 : Cond.arrayClass .int ∈ wsX11_init := by decide +kernel
  have w_8 : Cond.fieldLink RX11 14 (TX11 1).1 (TX11 1).2.1 (TX11 1).2.2.1 ∈ wsX11_init := by decide +kernel
  have w_9 : Cond.fieldLink RX11 18 (TX11 2).1 (TX11 2).2.1 (TX11 2).2.2.1 ∈ wsX11_init := by decide +kernel
  have w_10 : Cond.fieldLink RX11 21 (TX11 3).1 (TX11 3).2.1 (TX11 3).2.2.1 ∈ wsX11_init := by decide +kernel
  have w_11 : Cond.fieldLink RX11 24 (TX11 5).1 (TX11 5).2.1 (TX11 5).2.2.1 ∈ wsX11_init := by decide +kernel
  have w_12 : Cond.fieldLink RX11 27 (TX11 6).1 (TX11 6).2.1 (TX11 6).2.2.1 ∈ wsX11_init := by decide +kernel
  have w_13 : Cond.fieldLink RX11 30 (TX11 7).1 (TX11 7).2.1 (TX11 7).2.2.1 ∈ wsX11_init := by decide +kernel
  have w_14 : Cond.fieldLink RX11 33 (TX11 8).1 (TX11 8).2.1 (TX11 8).2.2.1 ∈ wsX11_init := by decide +kernel
  have w_15 : Cond.fieldLink RX11 36 (TX11 10).1 (TX11 10).2.1 (TX11 10).2.2.1 ∈ wsX11_init := by decide +kernel
  have w_16 : Cond.fieldLink RX11 39 (TX11 11).1 (TX11 11).2.1 (TX11 11).2.2.1 ∈ wsX11_init := by decide +kernel
  have w_17 : Cond.fieldLink RX11 42 (TX11 12).1 (TX11 12).2.1 (TX11 12).2.2.1 ∈ wsX11_init := by decide +kernel
  have w_18 : Cond.fieldLink RX11 45 (TX11 14).1 (TX11 14).2.1 (TX11 14).2.2.1 ∈ wsX11_init := by decide +kernel
  have w_19 : Cond.fieldLink RX11 48 (TX11 15).1 (TX11 15).2.1 (TX11 15).2.2.1 ∈ wsX11_init := by decide +kernel
  have w_20 : Cond.fieldLink RX11 51 (TX11 17).1 (TX11 17).2.1 (TX11 17).2.2.1 ∈ wsX11_init := by decide +kernel
  have w_21 : Cond.fieldLink RX11 54 (TX11 18).1 (TX11 18).2.1 (TX11 18).2.2.1 ∈ wsX11_init := by decide +kernel
  have w_22 : Cond.fieldLink RX11 57 (TX11 19).1 (TX11 19).2.1 (TX11 19).2.2.1 ∈ wsX11_init := by decide +kernel
  have hAA : ∀ k, k < i + 1 → A k = A k := fun _ _ => rfl
  have hGG : ∀ k, k < i → g k = g k := fun _ _ => rfl
  have ho : g i = .inr (11, [.null, .null, .null, .null, .int 0, .null, .null, .null, .null, .int 0, .null, .null, .null, .int 0, .null, .null, .int 0, .null, .null, .null, .int 0]) := hg
  refine lv_aload_n X.1 X.2.1 dX11_init_0 rfl (lv_at hl 0 rfl) ?_
  refine x_objInit X w_0 w_1 w_2 hl.1 (Nat.le_of_ble_eq_true rfl) (Nat.le_of_ble_eq_true rfl) dX11_init_1 ?_
  refine lv_aload_n X.1 X.2.1 dX11_init_4 rfl (lv_at hl 0 rfl) ?_
  refine x_ldcC X 40000 (by decide) w_3 dX11_init_5 ?_
  refine x_newJ X hW w_4 40000 (by decide +kernel) (by decide +kernel) (by decide) (Nat.le_of_ble_eq_true rfl) (Nat.le_of_ble_eq_true rfl) dX11_init_7 (fun q1 A7 g7 H hq1 hA7 hg7 f1 hW => ?_)
  have ha : a0 = A7 i := ha.trans (hA7 (i) (by omega)).symm
  have hAA : ∀ k, k < i + 1 → A7 k = A k := fun k hk => (hA7 k (by omega)).trans (hAA k hk)
  have hGG : ∀ k, k < i → g7 k = g k := fun k hk => (hg7 k (by omega)).trans (hGG k hk)
  have ho : g7 i = .inr (11, [.null, .null, .null, .null, .int 0, .null, .null, .null, .null, .int 0, .null, .null, .null, .int 0, .null, .null, .int 0, .null, .null, .null, .int 0]) := (hg7 (i) (by omega)).trans ho
  have hW : wH E (wF A (i + 1) sz) A7 (i + 2) s_ g7 H locs := hW
  refine W.widen (k := 1) (n := 40000) (Nat.le_of_ble_eq_true rfl) (Nat.le_of_ble_eq_true rfl) ?_
  refine xc_putF X hnm hW (v := .ref q1) ha (by omega) ho rfl w_5 tyX11 tyX11_ok nmX11 0 (by decide) w_6 rfl rfl rfl rfl (by show 0 < 21; decide) dX11_init_9 (fun g9 H locs ho hg9 hW => ?_)
  have ho : g9 i = .inr (11, [.ref q1, .null, .null, .null, .int 0, .null, .null, .null, .null, .int 0, .null, .null, .null, .int 0, .null, .null, .int 0, .null, .null, .null, .int 0]) := ho
  have hGG : ∀ k, k < i → g9 k = g k := fun k hk => (hg9 k (by omega)).trans (hGG k hk)
  have f1 : g9 (i + 1) = aJ E 40000 (fun _ => 0) := (hg9 (i + 1) (by omega)).trans f1
  have hW : wH E (wF A (i + 1) sz) A7 (i + 2) s_ g9 H locs := hW
  refine lv_aload_n X.1 X.2.1 dX11_init_12 rfl (lv_at hl 0 rfl) ?_
  refine x_bipush X (by decide) dX11_init_13 ?_
  refine x_newI X hW w_7 10 (by decide +kernel) (by decide +kernel) (by decide) (Nat.le_of_ble_eq_true rfl) (Nat.le_of_ble_eq_true rfl) dX11_init_15 (fun q2 A15 g15 H hq2 hA15 hg15 f2 hW => ?_)
  have ha : a0 = A15 i := ha.trans (hA15 (i) (by omega)).symm
  have hAA : ∀ k, k < i + 1 → A15 k = A k := fun k hk => (hA15 k (by omega)).trans (hAA k hk)
  have hGG : ∀ k, k < i → g15 k = g k := fun k hk => (hg15 k (by omega)).trans (hGG k hk)
  have ho : g15 i = .inr (11, [.ref q1, .null, .null, .null, .int 0, .null, .null, .null, .null, .int 0, .null, .null, .null, .int 0, .null, .null, .int 0, .null, .null, .null, .int 0]) := (hg15 (i) (by omega)).trans ho
  have hq1 : q1 = A15 (i + 1) := hq1.trans (hA15 (i + 1) (by omega)).symm
  have f1 : g15 (i + 1) = aJ E 40000 (fun _ => 0) := (hg15 (i + 1) (by omega)).trans f1
  have hW : wH E (wF A (i + 1) sz) A15 (i + 3) s_ g15 H locs := hW
  refine W.widen (k := 2) (n := 40010) (Nat.le_of_ble_eq_true rfl) (Nat.le_of_ble_eq_true rfl) ?_
  refine xc_putF X hnm hW (v := .ref q2) ha (by omega) ho rfl w_5 tyX11 tyX11_ok nmX11 1 (by decide) w_8 rfl rfl rfl rfl (by show 1 < 21; decide) dX11_init_17 (fun g17 H locs ho hg17 hW => ?_)
  have ho : g17 i = .inr (11, [.ref q1, .ref q2, .null, .null, .int 0, .null, .null, .null, .null, .int 0, .null, .null, .null, .int 0, .null, .null, .int 0, .null, .null, .null, .int 0]) := ho
  have hGG : ∀ k, k < i → g17 k = g k := fun k hk => (hg17 k (by omega)).trans (hGG k hk)
  have f1 : g17 (i + 1) = aJ E 40000 (fun _ => 0) := (hg17 (i + 1) (by omega)).trans f1
  have f2 : g17 (i + 2) = aI E 10 (fun _ => 0) := (hg17 (i + 2) (by omega)).trans f2
  have hW : wH E (wF A (i + 1) sz) A15 (i + 3) s_ g17 H locs := hW
  refine lv_aload_n X.1 X.2.1 dX11_init_20 rfl (lv_at hl 0 rfl) ?_
  refine x_bipush X (by decide) dX11_init_21 ?_
  refine x_newI X hW w_7 10 (by decide +kernel) (by decide +kernel) (by decide) (Nat.le_of_ble_eq_true rfl) (Nat.le_of_ble_eq_true rfl) dX11_init_23 (fun q3 A23 g23 H hq3 hA23 hg23 f3 hW => ?_)
  have ha : a0 = A23 i := ha.trans (hA23 (i) (by omega)).symm
  have hAA : ∀ k, k < i + 1 → A23 k = A k := fun k hk => (hA23 k (by omega)).trans (hAA k hk)
  have hGG : ∀ k, k < i → g23 k = g k := fun k hk => (hg23 k (by omega)).trans (hGG k hk)
  have ho : g23 i = .inr (11, [.ref q1, .ref q2, .null, .null, .int 0, .null, .null, .null, .null, .int 0, .null, .null, .null, .int 0, .null, .null, .int 0, .null, .null, .null, .int 0]) := (hg23 (i) (by omega)).trans ho
  have hq1 : q1 = A23 (i + 1) := hq1.trans (hA23 (i + 1) (by omega)).symm
  have f1 : g23 (i + 1) = aJ E 40000 (fun _ => 0) := (hg23 (i + 1) (by omega)).trans f1
  have hq2 : q2 = A23 (i + 2) := hq2.trans (hA23 (i + 2) (by omega)).symm
  have f2 : g23 (i + 2) = aI E 10 (fun _ => 0) := (hg23 (i + 2) (by omega)).trans f2
  have hW : wH E (wF A (i + 1) sz) A23 (i + 4) s_ g23 H locs := hW
  refine W.widen (k := 3) (n := 40020) (Nat.le_of_ble_eq_true rfl) (Nat.le_of_ble_eq_true rfl) ?_
  refine xc_putF X hnm hW (v := .ref q3) ha (by omega) ho rfl w_5 tyX11 tyX11_ok nmX11 2 (by decide) w_9 rfl rfl rfl rfl (by show 2 < 21; decide) dX11_init_25 (fun g25 H locs ho hg25 hW => ?_)
  have ho : g25 i = .inr (11, [.ref q1, .ref q2, .ref q3, .null, .int 0, .null, .null, .null, .null, .int 0, .null, .null, .null, .int 0, .null, .null, .int 0, .null, .null, .null, .int 0]) := ho
  have hGG : ∀ k, k < i → g25 k = g k := fun k hk => (hg25 k (by omega)).trans (hGG k hk)
  have f1 : g25 (i + 1) = aJ E 40000 (fun _ => 0) := (hg25 (i + 1) (by omega)).trans f1
  have f2 : g25 (i + 2) = aI E 10 (fun _ => 0) := (hg25 (i + 2) (by omega)).trans f2
  have f3 : g25 (i + 3) = aI E 10 (fun _ => 0) := (hg25 (i + 3) (by omega)).trans f3
  have hW : wH E (wF A (i + 1) sz) A23 (i + 4) s_ g25 H locs := hW
  refine lv_aload_n X.1 X.2.1 dX11_init_28 rfl (lv_at hl 0 rfl) ?_
  refine x_sipush X (by decide) dX11_init_29 ?_
  refine x_newJ X hW w_4 400 (by decide +kernel) (by decide +kernel) (by decide) (Nat.le_of_ble_eq_true rfl) (Nat.le_of_ble_eq_true rfl) dX11_init_32 (fun q4 A32 g32 H hq4 hA32 hg32 f4 hW => ?_)
  have ha : a0 = A32 i := ha.trans (hA32 (i) (by omega)).symm
  have hAA : ∀ k, k < i + 1 → A32 k = A k := fun k hk => (hA32 k (by omega)).trans (hAA k hk)
  have hGG : ∀ k, k < i → g32 k = g k := fun k hk => (hg32 k (by omega)).trans (hGG k hk)
  have ho : g32 i = .inr (11, [.ref q1, .ref q2, .ref q3, .null, .int 0, .null, .null, .null, .null, .int 0, .null, .null, .null, .int 0, .null, .null, .int 0, .null, .null, .null, .int 0]) := (hg32 (i) (by omega)).trans ho
  have hq1 : q1 = A32 (i + 1) := hq1.trans (hA32 (i + 1) (by omega)).symm
  have f1 : g32 (i + 1) = aJ E 40000 (fun _ => 0) := (hg32 (i + 1) (by omega)).trans f1
  have hq2 : q2 = A32 (i + 2) := hq2.trans (hA32 (i + 2) (by omega)).symm
  have f2 : g32 (i + 2) = aI E 10 (fun _ => 0) := (hg32 (i + 2) (by omega)).trans f2
  have hq3 : q3 = A32 (i + 3) := hq3.trans (hA32 (i + 3) (by omega)).symm
  have f3 : g32 (i + 3) = aI E 10 (fun _ => 0) := (hg32 (i + 3) (by omega)).trans f3
  have hW : wH E (wF A (i + 1) sz) A32 (i + 5) s_ g32 H locs := hW
  refine W.widen (k := 4) (n := 40420) (Nat.le_of_ble_eq_true rfl) (Nat.le_of_ble_eq_true rfl) ?_
  refine xc_putF X hnm hW (v := .ref q4) ha (by omega) ho rfl w_5 tyX11 tyX11_ok nmX11 3 (by decide) w_10 rfl rfl rfl rfl (by show 3 < 21; decide) dX11_init_34 (fun g34 H locs ho hg34 hW => ?_)
  have ho : g34 i = .inr (11, [.ref q1, .ref q2, .ref q3, .ref q4, .int 0, .null, .null, .null, .null, .int 0, .null, .null, .null, .int 0, .null, .null, .int 0, .null, .null, .null, .int 0]) := ho
  have hGG : ∀ k, k < i → g34 k = g k := fun k hk => (hg34 k (by omega)).trans (hGG k hk)
  have f1 : g34 (i + 1) = aJ E 40000 (fun _ => 0) := (hg34 (i + 1) (by omega)).trans f1
  have f2 : g34 (i + 2) = aI E 10 (fun _ => 0) := (hg34 (i + 2) (by omega)).trans f2
  have f3 : g34 (i + 3) = aI E 10 (fun _ => 0) := (hg34 (i + 3) (by omega)).trans f3
  have f4 : g34 (i + 4) = aJ E 400 (fun _ => 0) := (hg34 (i + 4) (by omega)).trans f4
  have hW : wH E (wF A (i + 1) sz) A32 (i + 5) s_ g34 H locs := hW
  refine lv_aload_n X.1 X.2.1 dX11_init_37 rfl (lv_at hl 0 rfl) ?_
  refine x_bipush X (by decide) dX11_init_38 ?_
  refine x_newI X hW w_7 16 (by decide +kernel) (by decide +kernel) (by decide) (Nat.le_of_ble_eq_true rfl) (Nat.le_of_ble_eq_true rfl) dX11_init_40 (fun q5 A40 g40 H hq5 hA40 hg40 f5 hW => ?_)
  have ha : a0 = A40 i := ha.trans (hA40 (i) (by omega)).symm
  have hAA : ∀ k, k < i + 1 → A40 k = A k := fun k hk => (hA40 k (by omega)).trans (hAA k hk)
  have hGG : ∀ k, k < i → g40 k = g k := fun k hk => (hg40 k (by omega)).trans (hGG k hk)
  have ho : g40 i = .inr (11, [.ref q1, .ref q2, .ref q3, .ref q4, .int 0, .null, .null, .null, .null, .int 0, .null, .null, .null, .int 0, .null, .null, .int 0, .null, .null, .null, .int 0]) := (hg40 (i) (by omega)).trans ho
  have hq1 : q1 = A40 (i + 1) := hq1.trans (hA40 (i + 1) (by omega)).symm
  have f1 : g40 (i + 1) = aJ E 40000 (fun _ => 0) := (hg40 (i + 1) (by omega)).trans f1
  have hq2 : q2 = A40 (i + 2) := hq2.trans (hA40 (i + 2) (by omega)).symm
  have f2 : g40 (i + 2) = aI E 10 (fun _ => 0) := (hg40 (i + 2) (by omega)).trans f2
  have hq3 : q3 = A40 (i + 3) := hq3.trans (hA40 (i + 3) (by omega)).symm
  have f3 : g40 (i + 3) = aI E 10 (fun _ => 0) := (hg40 (i + 3) (by omega)).trans f3
  have hq4 : q4 = A40 (i + 4) := hq4.trans (hA40 (i + 4) (by omega)).symm
  have f4 : g40 (i + 4) = aJ E 400 (fun _ => 0) := (hg40 (i + 4) (by omega)).trans f4
  have hW : wH E (wF A (i + 1) sz) A40 (i + 6) s_ g40 H locs := hW
  refine W.widen (k := 5) (n := 40436) (Nat.le_of_ble_eq_true rfl) (Nat.le_of_ble_eq_true rfl) ?_
  refine xc_putF X hnm hW (v := .ref q5) ha (by omega) ho rfl w_5 tyX11 tyX11_ok nmX11 5 (by decide) w_11 rfl rfl rfl rfl (by show 5 < 21; decide) dX11_init_42 (fun g42 H locs ho hg42 hW => ?_)
  have ho : g42 i = .inr (11, [.ref q1, .ref q2, .ref q3, .ref q4, .int 0, .ref q5, .null, .null, .null, .int 0, .null, .null, .null, .int 0, .null, .null, .int 0, .null, .null, .null, .int 0]) := ho
  have hGG : ∀ k, k < i → g42 k = g k := fun k hk => (hg42 k (by omega)).trans (hGG k hk)
  have f1 : g42 (i + 1) = aJ E 40000 (fun _ => 0) := (hg42 (i + 1) (by omega)).trans f1
  have f2 : g42 (i + 2) = aI E 10 (fun _ => 0) := (hg42 (i + 2) (by omega)).trans f2
  have f3 : g42 (i + 3) = aI E 10 (fun _ => 0) := (hg42 (i + 3) (by omega)).trans f3
  have f4 : g42 (i + 4) = aJ E 400 (fun _ => 0) := (hg42 (i + 4) (by omega)).trans f4
  have f5 : g42 (i + 5) = aI E 16 (fun _ => 0) := (hg42 (i + 5) (by omega)).trans f5
  have hW : wH E (wF A (i + 1) sz) A40 (i + 6) s_ g42 H locs := hW
  refine lv_aload_n X.1 X.2.1 dX11_init_45 rfl (lv_at hl 0 rfl) ?_
  refine x_sipush X (by decide) dX11_init_46 ?_
  refine x_newI X hW w_7 128 (by decide +kernel) (by decide +kernel) (by decide) (Nat.le_of_ble_eq_true rfl) (Nat.le_of_ble_eq_true rfl) dX11_init_49 (fun q6 A49 g49 H hq6 hA49 hg49 f6 hW => ?_)
  have ha : a0 = A49 i := ha.trans (hA49 (i) (by omega)).symm
  have hAA : ∀ k, k < i + 1 → A49 k = A k := fun k hk => (hA49 k (by omega)).trans (hAA k hk)
  have hGG : ∀ k, k < i → g49 k = g k := fun k hk => (hg49 k (by omega)).trans (hGG k hk)
  have ho : g49 i = .inr (11, [.ref q1, .ref q2, .ref q3, .ref q4, .int 0, .ref q5, .null, .null, .null, .int 0, .null, .null, .null, .int 0, .null, .null, .int 0, .null, .null, .null, .int 0]) := (hg49 (i) (by omega)).trans ho
  have hq1 : q1 = A49 (i + 1) := hq1.trans (hA49 (i + 1) (by omega)).symm
  have f1 : g49 (i + 1) = aJ E 40000 (fun _ => 0) := (hg49 (i + 1) (by omega)).trans f1
  have hq2 : q2 = A49 (i + 2) := hq2.trans (hA49 (i + 2) (by omega)).symm
  have f2 : g49 (i + 2) = aI E 10 (fun _ => 0) := (hg49 (i + 2) (by omega)).trans f2
  have hq3 : q3 = A49 (i + 3) := hq3.trans (hA49 (i + 3) (by omega)).symm
  have f3 : g49 (i + 3) = aI E 10 (fun _ => 0) := (hg49 (i + 3) (by omega)).trans f3
  have hq4 : q4 = A49 (i + 4) := hq4.trans (hA49 (i + 4) (by omega)).symm
  have f4 : g49 (i + 4) = aJ E 400 (fun _ => 0) := (hg49 (i + 4) (by omega)).trans f4
  have hq5 : q5 = A49 (i + 5) := hq5.trans (hA49 (i + 5) (by omega)).symm
  have f5 : g49 (i + 5) = aI E 16 (fun _ => 0) := (hg49 (i + 5) (by omega)).trans f5
  have hW : wH E (wF A (i + 1) sz) A49 (i + 7) s_ g49 H locs := hW
  refine W.widen (k := 6) (n := 40564) (Nat.le_of_ble_eq_true rfl) (Nat.le_of_ble_eq_true rfl) ?_
  refine xc_putF X hnm hW (v := .ref q6) ha (by omega) ho rfl w_5 tyX11 tyX11_ok nmX11 6 (by decide) w_12 rfl rfl rfl rfl (by show 6 < 21; decide) dX11_init_51 (fun g51 H locs ho hg51 hW => ?_)
  have ho : g51 i = .inr (11, [.ref q1, .ref q2, .ref q3, .ref q4, .int 0, .ref q5, .ref q6, .null, .null, .int 0, .null, .null, .null, .int 0, .null, .null, .int 0, .null, .null, .null, .int 0]) := ho
  have hGG : ∀ k, k < i → g51 k = g k := fun k hk => (hg51 k (by omega)).trans (hGG k hk)
  have f1 : g51 (i + 1) = aJ E 40000 (fun _ => 0) := (hg51 (i + 1) (by omega)).trans f1
  have f2 : g51 (i + 2) = aI E 10 (fun _ => 0) := (hg51 (i + 2) (by omega)).trans f2
  have f3 : g51 (i + 3) = aI E 10 (fun _ => 0) := (hg51 (i + 3) (by omega)).trans f3
  have f4 : g51 (i + 4) = aJ E 400 (fun _ => 0) := (hg51 (i + 4) (by omega)).trans f4
  have f5 : g51 (i + 5) = aI E 16 (fun _ => 0) := (hg51 (i + 5) (by omega)).trans f5
  have f6 : g51 (i + 6) = aI E 128 (fun _ => 0) := (hg51 (i + 6) (by omega)).trans f6
  have hW : wH E (wF A (i + 1) sz) A49 (i + 7) s_ g51 H locs := hW
  refine lv_aload_n X.1 X.2.1 dX11_init_54 rfl (lv_at hl 0 rfl) ?_
  refine x_sipush X (by decide) dX11_init_55 ?_
  refine x_newI X hW w_7 128 (by decide +kernel) (by decide +kernel) (by decide) (Nat.le_of_ble_eq_true rfl) (Nat.le_of_ble_eq_true rfl) dX11_init_58 (fun q7 A58 g58 H hq7 hA58 hg58 f7 hW => ?_)
  have ha : a0 = A58 i := ha.trans (hA58 (i) (by omega)).symm
  have hAA : ∀ k, k < i + 1 → A58 k = A k := fun k hk => (hA58 k (by omega)).trans (hAA k hk)
  have hGG : ∀ k, k < i → g58 k = g k := fun k hk => (hg58 k (by omega)).trans (hGG k hk)
  have ho : g58 i = .inr (11, [.ref q1, .ref q2, .ref q3, .ref q4, .int 0, .ref q5, .ref q6, .null, .null, .int 0, .null, .null, .null, .int 0, .null, .null, .int 0, .null, .null, .null, .int 0]) := (hg58 (i) (by omega)).trans ho
  have hq1 : q1 = A58 (i + 1) := hq1.trans (hA58 (i + 1) (by omega)).symm
  have f1 : g58 (i + 1) = aJ E 40000 (fun _ => 0) := (hg58 (i + 1) (by omega)).trans f1
  have hq2 : q2 = A58 (i + 2) := hq2.trans (hA58 (i + 2) (by omega)).symm
  have f2 : g58 (i + 2) = aI E 10 (fun _ => 0) := (hg58 (i + 2) (by omega)).trans f2
  have hq3 : q3 = A58 (i + 3) := hq3.trans (hA58 (i + 3) (by omega)).symm
  have f3 : g58 (i + 3) = aI E 10 (fun _ => 0) := (hg58 (i + 3) (by omega)).trans f3
  have hq4 : q4 = A58 (i + 4) := hq4.trans (hA58 (i + 4) (by omega)).symm
  have f4 : g58 (i + 4) = aJ E 400 (fun _ => 0) := (hg58 (i + 4) (by omega)).trans f4
  have hq5 : q5 = A58 (i + 5) := hq5.trans (hA58 (i + 5) (by omega)).symm
  have f5 : g58 (i + 5) = aI E 16 (fun _ => 0) := (hg58 (i + 5) (by omega)).trans f5
  have hq6 : q6 = A58 (i + 6) := hq6.trans (hA58 (i + 6) (by omega)).symm
  have f6 : g58 (i + 6) = aI E 128 (fun _ => 0) := (hg58 (i + 6) (by omega)).trans f6
  have hW : wH E (wF A (i + 1) sz) A58 (i + 8) s_ g58 H locs := hW
  refine W.widen (k := 7) (n := 40692) (Nat.le_of_ble_eq_true rfl) (Nat.le_of_ble_eq_true rfl) ?_
  refine xc_putF X hnm hW (v := .ref q7) ha (by omega) ho rfl w_5 tyX11 tyX11_ok nmX11 7 (by decide) w_13 rfl rfl rfl rfl (by show 7 < 21; decide) dX11_init_60 (fun g60 H locs ho hg60 hW => ?_)
  have ho : g60 i = .inr (11, [.ref q1, .ref q2, .ref q3, .ref q4, .int 0, .ref q5, .ref q6, .ref q7, .null, .int 0, .null, .null, .null, .int 0, .null, .null, .int 0, .null, .null, .null, .int 0]) := ho
  have hGG : ∀ k, k < i → g60 k = g k := fun k hk => (hg60 k (by omega)).trans (hGG k hk)
  have f1 : g60 (i + 1) = aJ E 40000 (fun _ => 0) := (hg60 (i + 1) (by omega)).trans f1
  have f2 : g60 (i + 2) = aI E 10 (fun _ => 0) := (hg60 (i + 2) (by omega)).trans f2
  have f3 : g60 (i + 3) = aI E 10 (fun _ => 0) := (hg60 (i + 3) (by omega)).trans f3
  have f4 : g60 (i + 4) = aJ E 400 (fun _ => 0) := (hg60 (i + 4) (by omega)).trans f4
  have f5 : g60 (i + 5) = aI E 16 (fun _ => 0) := (hg60 (i + 5) (by omega)).trans f5
  have f6 : g60 (i + 6) = aI E 128 (fun _ => 0) := (hg60 (i + 6) (by omega)).trans f6
  have f7 : g60 (i + 7) = aI E 128 (fun _ => 0) := (hg60 (i + 7) (by omega)).trans f7
  have hW : wH E (wF A (i + 1) sz) A58 (i + 8) s_ g60 H locs := hW
  refine lv_aload_n X.1 X.2.1 dX11_init_63 rfl (lv_at hl 0 rfl) ?_
  refine x_bipush X (by decide) dX11_init_64 ?_
  refine x_newI X hW w_7 16 (by decide +kernel) (by decide +kernel) (by decide) (Nat.le_of_ble_eq_true rfl) (Nat.le_of_ble_eq_true rfl) dX11_init_66 (fun q8 A66 g66 H hq8 hA66 hg66 f8 hW => ?_)
  have ha : a0 = A66 i := ha.trans (hA66 (i) (by omega)).symm
  have hAA : ∀ k, k < i + 1 → A66 k = A k := fun k hk => (hA66 k (by omega)).trans (hAA k hk)
  have hGG : ∀ k, k < i → g66 k = g k := fun k hk => (hg66 k (by omega)).trans (hGG k hk)
  have ho : g66 i = .inr (11, [.ref q1, .ref q2, .ref q3, .ref q4, .int 0, .ref q5, .ref q6, .ref q7, .null, .int 0, .null, .null, .null, .int 0, .null, .null, .int 0, .null, .null, .null, .int 0]) := (hg66 (i) (by omega)).trans ho
  have hq1 : q1 = A66 (i + 1) := hq1.trans (hA66 (i + 1) (by omega)).symm
  have f1 : g66 (i + 1) = aJ E 40000 (fun _ => 0) := (hg66 (i + 1) (by omega)).trans f1
  have hq2 : q2 = A66 (i + 2) := hq2.trans (hA66 (i + 2) (by omega)).symm
  have f2 : g66 (i + 2) = aI E 10 (fun _ => 0) := (hg66 (i + 2) (by omega)).trans f2
  have hq3 : q3 = A66 (i + 3) := hq3.trans (hA66 (i + 3) (by omega)).symm
  have f3 : g66 (i + 3) = aI E 10 (fun _ => 0) := (hg66 (i + 3) (by omega)).trans f3
  have hq4 : q4 = A66 (i + 4) := hq4.trans (hA66 (i + 4) (by omega)).symm
  have f4 : g66 (i + 4) = aJ E 400 (fun _ => 0) := (hg66 (i + 4) (by omega)).trans f4
  have hq5 : q5 = A66 (i + 5) := hq5.trans (hA66 (i + 5) (by omega)).symm
  have f5 : g66 (i + 5) = aI E 16 (fun _ => 0) := (hg66 (i + 5) (by omega)).trans f5
  have hq6 : q6 = A66 (i + 6) := hq6.trans (hA66 (i + 6) (by omega)).symm
  have f6 : g66 (i + 6) = aI E 128 (fun _ => 0) := (hg66 (i + 6) (by omega)).trans f6
  have hq7 : q7 = A66 (i + 7) := hq7.trans (hA66 (i + 7) (by omega)).symm
  have f7 : g66 (i + 7) = aI E 128 (fun _ => 0) := (hg66 (i + 7) (by omega)).trans f7
  have hW : wH E (wF A (i + 1) sz) A66 (i + 9) s_ g66 H locs := hW
  refine W.widen (k := 8) (n := 40708) (Nat.le_of_ble_eq_true rfl) (Nat.le_of_ble_eq_true rfl) ?_
  refine xc_putF X hnm hW (v := .ref q8) ha (by omega) ho rfl w_5 tyX11 tyX11_ok nmX11 8 (by decide) w_14 rfl rfl rfl rfl (by show 8 < 21; decide) dX11_init_68 (fun g68 H locs ho hg68 hW => ?_)
  have ho : g68 i = .inr (11, [.ref q1, .ref q2, .ref q3, .ref q4, .int 0, .ref q5, .ref q6, .ref q7, .ref q8, .int 0, .null, .null, .null, .int 0, .null, .null, .int 0, .null, .null, .null, .int 0]) := ho
  have hGG : ∀ k, k < i → g68 k = g k := fun k hk => (hg68 k (by omega)).trans (hGG k hk)
  have f1 : g68 (i + 1) = aJ E 40000 (fun _ => 0) := (hg68 (i + 1) (by omega)).trans f1
  have f2 : g68 (i + 2) = aI E 10 (fun _ => 0) := (hg68 (i + 2) (by omega)).trans f2
  have f3 : g68 (i + 3) = aI E 10 (fun _ => 0) := (hg68 (i + 3) (by omega)).trans f3
  have f4 : g68 (i + 4) = aJ E 400 (fun _ => 0) := (hg68 (i + 4) (by omega)).trans f4
  have f5 : g68 (i + 5) = aI E 16 (fun _ => 0) := (hg68 (i + 5) (by omega)).trans f5
  have f6 : g68 (i + 6) = aI E 128 (fun _ => 0) := (hg68 (i + 6) (by omega)).trans f6
  have f7 : g68 (i + 7) = aI E 128 (fun _ => 0) := (hg68 (i + 7) (by omega)).trans f7
  have f8 : g68 (i + 8) = aI E 16 (fun _ => 0) := (hg68 (i + 8) (by omega)).trans f8
  have hW : wH E (wF A (i + 1) sz) A66 (i + 9) s_ g68 H locs := hW
  refine lv_aload_n X.1 X.2.1 dX11_init_71 rfl (lv_at hl 0 rfl) ?_
  refine x_bipush X (by decide) dX11_init_72 ?_
  refine x_newI X hW w_7 10 (by decide +kernel) (by decide +kernel) (by decide) (Nat.le_of_ble_eq_true rfl) (Nat.le_of_ble_eq_true rfl) dX11_init_74 (fun q9 A74 g74 H hq9 hA74 hg74 f9 hW => ?_)
  have ha : a0 = A74 i := ha.trans (hA74 (i) (by omega)).symm
  have hAA : ∀ k, k < i + 1 → A74 k = A k := fun k hk => (hA74 k (by omega)).trans (hAA k hk)
  have hGG : ∀ k, k < i → g74 k = g k := fun k hk => (hg74 k (by omega)).trans (hGG k hk)
  have ho : g74 i = .inr (11, [.ref q1, .ref q2, .ref q3, .ref q4, .int 0, .ref q5, .ref q6, .ref q7, .ref q8, .int 0, .null, .null, .null, .int 0, .null, .null, .int 0, .null, .null, .null, .int 0]) := (hg74 (i) (by omega)).trans ho
  have hq1 : q1 = A74 (i + 1) := hq1.trans (hA74 (i + 1) (by omega)).symm
  have f1 : g74 (i + 1) = aJ E 40000 (fun _ => 0) := (hg74 (i + 1) (by omega)).trans f1
  have hq2 : q2 = A74 (i + 2) := hq2.trans (hA74 (i + 2) (by omega)).symm
  have f2 : g74 (i + 2) = aI E 10 (fun _ => 0) := (hg74 (i + 2) (by omega)).trans f2
  have hq3 : q3 = A74 (i + 3) := hq3.trans (hA74 (i + 3) (by omega)).symm
  have f3 : g74 (i + 3) = aI E 10 (fun _ => 0) := (hg74 (i + 3) (by omega)).trans f3
  have hq4 : q4 = A74 (i + 4) := hq4.trans (hA74 (i + 4) (by omega)).symm
  have f4 : g74 (i + 4) = aJ E 400 (fun _ => 0) := (hg74 (i + 4) (by omega)).trans f4
  have hq5 : q5 = A74 (i + 5) := hq5.trans (hA74 (i + 5) (by omega)).symm
  have f5 : g74 (i + 5) = aI E 16 (fun _ => 0) := (hg74 (i + 5) (by omega)).trans f5
  have hq6 : q6 = A74 (i + 6) := hq6.trans (hA74 (i + 6) (by omega)).symm
  have f6 : g74 (i + 6) = aI E 128 (fun _ => 0) := (hg74 (i + 6) (by omega)).trans f6
  have hq7 : q7 = A74 (i + 7) := hq7.trans (hA74 (i + 7) (by omega)).symm
  have f7 : g74 (i + 7) = aI E 128 (fun _ => 0) := (hg74 (i + 7) (by omega)).trans f7
  have hq8 : q8 = A74 (i + 8) := hq8.trans (hA74 (i + 8) (by omega)).symm
  have f8 : g74 (i + 8) = aI E 16 (fun _ => 0) := (hg74 (i + 8) (by omega)).trans f8
  have hW : wH E (wF A (i + 1) sz) A74 (i + 10) s_ g74 H locs := hW
  refine W.widen (k := 9) (n := 40718) (Nat.le_of_ble_eq_true rfl) (Nat.le_of_ble_eq_true rfl) ?_
  refine xc_putF X hnm hW (v := .ref q9) ha (by omega) ho rfl w_5 tyX11 tyX11_ok nmX11 10 (by decide) w_15 rfl rfl rfl rfl (by show 10 < 21; decide) dX11_init_76 (fun g76 H locs ho hg76 hW => ?_)
  have ho : g76 i = .inr (11, [.ref q1, .ref q2, .ref q3, .ref q4, .int 0, .ref q5, .ref q6, .ref q7, .ref q8, .int 0, .ref q9, .null, .null, .int 0, .null, .null, .int 0, .null, .null, .null, .int 0]) := ho
  have hGG : ∀ k, k < i → g76 k = g k := fun k hk => (hg76 k (by omega)).trans (hGG k hk)
  have f1 : g76 (i + 1) = aJ E 40000 (fun _ => 0) := (hg76 (i + 1) (by omega)).trans f1
  have f2 : g76 (i + 2) = aI E 10 (fun _ => 0) := (hg76 (i + 2) (by omega)).trans f2
  have f3 : g76 (i + 3) = aI E 10 (fun _ => 0) := (hg76 (i + 3) (by omega)).trans f3
  have f4 : g76 (i + 4) = aJ E 400 (fun _ => 0) := (hg76 (i + 4) (by omega)).trans f4
  have f5 : g76 (i + 5) = aI E 16 (fun _ => 0) := (hg76 (i + 5) (by omega)).trans f5
  have f6 : g76 (i + 6) = aI E 128 (fun _ => 0) := (hg76 (i + 6) (by omega)).trans f6
  have f7 : g76 (i + 7) = aI E 128 (fun _ => 0) := (hg76 (i + 7) (by omega)).trans f7
  have f8 : g76 (i + 8) = aI E 16 (fun _ => 0) := (hg76 (i + 8) (by omega)).trans f8
  have f9 : g76 (i + 9) = aI E 10 (fun _ => 0) := (hg76 (i + 9) (by omega)).trans f9
  have hW : wH E (wF A (i + 1) sz) A74 (i + 10) s_ g76 H locs := hW
  refine lv_aload_n X.1 X.2.1 dX11_init_79 rfl (lv_at hl 0 rfl) ?_
  refine x_bipush X (by decide) dX11_init_80 ?_
  refine x_newI X hW w_7 10 (by decide +kernel) (by decide +kernel) (by decide) (Nat.le_of_ble_eq_true rfl) (Nat.le_of_ble_eq_true rfl) dX11_init_82 (fun q10 A82 g82 H hq10 hA82 hg82 f10 hW => ?_)
  have ha : a0 = A82 i := ha.trans (hA82 (i) (by omega)).symm
  have hAA : ∀ k, k < i + 1 → A82 k = A k := fun k hk => (hA82 k (by omega)).trans (hAA k hk)
  have hGG : ∀ k, k < i → g82 k = g k := fun k hk => (hg82 k (by omega)).trans (hGG k hk)
  have ho : g82 i = .inr (11, [.ref q1, .ref q2, .ref q3, .ref q4, .int 0, .ref q5, .ref q6, .ref q7, .ref q8, .int 0, .ref q9, .null, .null, .int 0, .null, .null, .int 0, .null, .null, .null, .int 0]) := (hg82 (i) (by omega)).trans ho
  have hq1 : q1 = A82 (i + 1) := hq1.trans (hA82 (i + 1) (by omega)).symm
  have f1 : g82 (i + 1) = aJ E 40000 (fun _ => 0) := (hg82 (i + 1) (by omega)).trans f1
  have hq2 : q2 = A82 (i + 2) := hq2.trans (hA82 (i + 2) (by omega)).symm
  have f2 : g82 (i + 2) = aI E 10 (fun _ => 0) := (hg82 (i + 2) (by omega)).trans f2
  have hq3 : q3 = A82 (i + 3) := hq3.trans (hA82 (i + 3) (by omega)).symm
  have f3 : g82 (i + 3) = aI E 10 (fun _ => 0) := (hg82 (i + 3) (by omega)).trans f3
  have hq4 : q4 = A82 (i + 4) := hq4.trans (hA82 (i + 4) (by omega)).symm
  have f4 : g82 (i + 4) = aJ E 400 (fun _ => 0) := (hg82 (i + 4) (by omega)).trans f4
  have hq5 : q5 = A82 (i + 5) := hq5.trans (hA82 (i + 5) (by omega)).symm
  have f5 : g82 (i + 5) = aI E 16 (fun _ => 0) := (hg82 (i + 5) (by omega)).trans f5
  have hq6 : q6 = A82 (i + 6) := hq6.trans (hA82 (i + 6) (by omega)).symm
  have f6 : g82 (i + 6) = aI E 128 (fun _ => 0) := (hg82 (i + 6) (by omega)).trans f6
  have hq7 : q7 = A82 (i + 7) := hq7.trans (hA82 (i + 7) (by omega)).symm
  have f7 : g82 (i + 7) = aI E 128 (fun _ => 0) := (hg82 (i + 7) (by omega)).trans f7
  have hq8 : q8 = A82 (i + 8) := hq8.trans (hA82 (i + 8) (by omega)).symm
  have f8 : g82 (i + 8) = aI E 16 (fun _ => 0) := (hg82 (i + 8) (by omega)).trans f8
  have hq9 : q9 = A82 (i + 9) := hq9.trans (hA82 (i + 9) (by omega)).symm
  have f9 : g82 (i + 9) = aI E 10 (fun _ => 0) := (hg82 (i + 9) (by omega)).trans f9
  have hW : wH E (wF A (i + 1) sz) A82 (i + 11) s_ g82 H locs := hW
  refine W.widen (k := 10) (n := 40728) (Nat.le_of_ble_eq_true rfl) (Nat.le_of_ble_eq_true rfl) ?_
  refine xc_putF X hnm hW (v := .ref q10) ha (by omega) ho rfl w_5 tyX11 tyX11_ok nmX11 11 (by decide) w_16 rfl rfl rfl rfl (by show 11 < 21; decide) dX11_init_84 (fun g84 H locs ho hg84 hW => ?_)
  have ho : g84 i = .inr (11, [.ref q1, .ref q2, .ref q3, .ref q4, .int 0, .ref q5, .ref q6, .ref q7, .ref q8, .int 0, .ref q9, .ref q10, .null, .int 0, .null, .null, .int 0, .null, .null, .null, .int 0]) := ho
  have hGG : ∀ k, k < i → g84 k = g k := fun k hk => (hg84 k (by omega)).trans (hGG k hk)
  have f1 : g84 (i + 1) = aJ E 40000 (fun _ => 0) := (hg84 (i + 1) (by omega)).trans f1
  have f2 : g84 (i + 2) = aI E 10 (fun _ => 0) := (hg84 (i + 2) (by omega)).trans f2
  have f3 : g84 (i + 3) = aI E 10 (fun _ => 0) := (hg84 (i + 3) (by omega)).trans f3
  have f4 : g84 (i + 4) = aJ E 400 (fun _ => 0) := (hg84 (i + 4) (by omega)).trans f4
  have f5 : g84 (i + 5) = aI E 16 (fun _ => 0) := (hg84 (i + 5) (by omega)).trans f5
  have f6 : g84 (i + 6) = aI E 128 (fun _ => 0) := (hg84 (i + 6) (by omega)).trans f6
  have f7 : g84 (i + 7) = aI E 128 (fun _ => 0) := (hg84 (i + 7) (by omega)).trans f7
  have f8 : g84 (i + 8) = aI E 16 (fun _ => 0) := (hg84 (i + 8) (by omega)).trans f8
  have f9 : g84 (i + 9) = aI E 10 (fun _ => 0) := (hg84 (i + 9) (by omega)).trans f9
  have f10 : g84 (i + 10) = aI E 10 (fun _ => 0) := (hg84 (i + 10) (by omega)).trans f10
  have hW : wH E (wF A (i + 1) sz) A82 (i + 11) s_ g84 H locs := hW
  refine lv_aload_n X.1 X.2.1 dX11_init_87 rfl (lv_at hl 0 rfl) ?_
  refine x_bipush X (by decide) dX11_init_88 ?_
  refine x_newI X hW w_7 21 (by decide +kernel) (by decide +kernel) (by decide) (Nat.le_of_ble_eq_true rfl) (Nat.le_of_ble_eq_true rfl) dX11_init_90 (fun q11 A90 g90 H hq11 hA90 hg90 f11 hW => ?_)
  have ha : a0 = A90 i := ha.trans (hA90 (i) (by omega)).symm
  have hAA : ∀ k, k < i + 1 → A90 k = A k := fun k hk => (hA90 k (by omega)).trans (hAA k hk)
  have hGG : ∀ k, k < i → g90 k = g k := fun k hk => (hg90 k (by omega)).trans (hGG k hk)
  have ho : g90 i = .inr (11, [.ref q1, .ref q2, .ref q3, .ref q4, .int 0, .ref q5, .ref q6, .ref q7, .ref q8, .int 0, .ref q9, .ref q10, .null, .int 0, .null, .null, .int 0, .null, .null, .null, .int 0]) := (hg90 (i) (by omega)).trans ho
  have hq1 : q1 = A90 (i + 1) := hq1.trans (hA90 (i + 1) (by omega)).symm
  have f1 : g90 (i + 1) = aJ E 40000 (fun _ => 0) := (hg90 (i + 1) (by omega)).trans f1
  have hq2 : q2 = A90 (i + 2) := hq2.trans (hA90 (i + 2) (by omega)).symm
  have f2 : g90 (i + 2) = aI E 10 (fun _ => 0) := (hg90 (i + 2) (by omega)).trans f2
  have hq3 : q3 = A90 (i + 3) := hq3.trans (hA90 (i + 3) (by omega)).symm
  have f3 : g90 (i + 3) = aI E 10 (fun _ => 0) := (hg90 (i + 3) (by omega)).trans f3
  have hq4 : q4 = A90 (i + 4) := hq4.trans (hA90 (i + 4) (by omega)).symm
  have f4 : g90 (i + 4) = aJ E 400 (fun _ => 0) := (hg90 (i + 4) (by omega)).trans f4
  have hq5 : q5 = A90 (i + 5) := hq5.trans (hA90 (i + 5) (by omega)).symm
  have f5 : g90 (i + 5) = aI E 16 (fun _ => 0) := (hg90 (i + 5) (by omega)).trans f5
  have hq6 : q6 = A90 (i + 6) := hq6.trans (hA90 (i + 6) (by omega)).symm
  have f6 : g90 (i + 6) = aI E 128 (fun _ => 0) := (hg90 (i + 6) (by omega)).trans f6
  have hq7 : q7 = A90 (i + 7) := hq7.trans (hA90 (i + 7) (by omega)).symm
  have f7 : g90 (i + 7) = aI E 128 (fun _ => 0) := (hg90 (i + 7) (by omega)).trans f7
  have hq8 : q8 = A90 (i + 8) := hq8.trans (hA90 (i + 8) (by omega)).symm
  have f8 : g90 (i + 8) = aI E 16 (fun _ => 0) := (hg90 (i + 8) (by omega)).trans f8
  have hq9 : q9 = A90 (i + 9) := hq9.trans (hA90 (i + 9) (by omega)).symm
  have f9 : g90 (i + 9) = aI E 10 (fun _ => 0) := (hg90 (i + 9) (by omega)).trans f9
  have hq10 : q10 = A90 (i + 10) := hq10.trans (hA90 (i + 10) (by omega)).symm
  have f10 : g90 (i + 10) = aI E 10 (fun _ => 0) := (hg90 (i + 10) (by omega)).trans f10
  have hW : wH E (wF A (i + 1) sz) A90 (i + 12) s_ g90 H locs := hW
  refine W.widen (k := 11) (n := 40749) (Nat.le_of_ble_eq_true rfl) (Nat.le_of_ble_eq_true rfl) ?_
  refine xc_putF X hnm hW (v := .ref q11) ha (by omega) ho rfl w_5 tyX11 tyX11_ok nmX11 12 (by decide) w_17 rfl rfl rfl rfl (by show 12 < 21; decide) dX11_init_92 (fun g92 H locs ho hg92 hW => ?_)
  have ho : g92 i = .inr (11, [.ref q1, .ref q2, .ref q3, .ref q4, .int 0, .ref q5, .ref q6, .ref q7, .ref q8, .int 0, .ref q9, .ref q10, .ref q11, .int 0, .null, .null, .int 0, .null, .null, .null, .int 0]) := ho
  have hGG : ∀ k, k < i → g92 k = g k := fun k hk => (hg92 k (by omega)).trans (hGG k hk)
  have f1 : g92 (i + 1) = aJ E 40000 (fun _ => 0) := (hg92 (i + 1) (by omega)).trans f1
  have f2 : g92 (i + 2) = aI E 10 (fun _ => 0) := (hg92 (i + 2) (by omega)).trans f2
  have f3 : g92 (i + 3) = aI E 10 (fun _ => 0) := (hg92 (i + 3) (by omega)).trans f3
  have f4 : g92 (i + 4) = aJ E 400 (fun _ => 0) := (hg92 (i + 4) (by omega)).trans f4
  have f5 : g92 (i + 5) = aI E 16 (fun _ => 0) := (hg92 (i + 5) (by omega)).trans f5
  have f6 : g92 (i + 6) = aI E 128 (fun _ => 0) := (hg92 (i + 6) (by omega)).trans f6
  have f7 : g92 (i + 7) = aI E 128 (fun _ => 0) := (hg92 (i + 7) (by omega)).trans f7
  have f8 : g92 (i + 8) = aI E 16 (fun _ => 0) := (hg92 (i + 8) (by omega)).trans f8
  have f9 : g92 (i + 9) = aI E 10 (fun _ => 0) := (hg92 (i + 9) (by omega)).trans f9
  have f10 : g92 (i + 10) = aI E 10 (fun _ => 0) := (hg92 (i + 10) (by omega)).trans f10
  have f11 : g92 (i + 11) = aI E 21 (fun _ => 0) := (hg92 (i + 11) (by omega)).trans f11
  have hW : wH E (wF A (i + 1) sz) A90 (i + 12) s_ g92 H locs := hW
  refine lv_aload_n X.1 X.2.1 dX11_init_95 rfl (lv_at hl 0 rfl) ?_
  refine x_bipush X (by decide) dX11_init_96 ?_
  refine x_newI X hW w_7 20 (by decide +kernel) (by decide +kernel) (by decide) (Nat.le_of_ble_eq_true rfl) (Nat.le_of_ble_eq_true rfl) dX11_init_98 (fun q12 A98 g98 H hq12 hA98 hg98 f12 hW => ?_)
  have ha : a0 = A98 i := ha.trans (hA98 (i) (by omega)).symm
  have hAA : ∀ k, k < i + 1 → A98 k = A k := fun k hk => (hA98 k (by omega)).trans (hAA k hk)
  have hGG : ∀ k, k < i → g98 k = g k := fun k hk => (hg98 k (by omega)).trans (hGG k hk)
  have ho : g98 i = .inr (11, [.ref q1, .ref q2, .ref q3, .ref q4, .int 0, .ref q5, .ref q6, .ref q7, .ref q8, .int 0, .ref q9, .ref q10, .ref q11, .int 0, .null, .null, .int 0, .null, .null, .null, .int 0]) := (hg98 (i) (by omega)).trans ho
  have hq1 : q1 = A98 (i + 1) := hq1.trans (hA98 (i + 1) (by omega)).symm
  have f1 : g98 (i + 1) = aJ E 40000 (fun _ => 0) := (hg98 (i + 1) (by omega)).trans f1
  have hq2 : q2 = A98 (i + 2) := hq2.trans (hA98 (i + 2) (by omega)).symm
  have f2 : g98 (i + 2) = aI E 10 (fun _ => 0) := (hg98 (i + 2) (by omega)).trans f2
  have hq3 : q3 = A98 (i + 3) := hq3.trans (hA98 (i + 3) (by omega)).symm
  have f3 : g98 (i + 3) = aI E 10 (fun _ => 0) := (hg98 (i + 3) (by omega)).trans f3
  have hq4 : q4 = A98 (i + 4) := hq4.trans (hA98 (i + 4) (by omega)).symm
  have f4 : g98 (i + 4) = aJ E 400 (fun _ => 0) := (hg98 (i + 4) (by omega)).trans f4
  have hq5 : q5 = A98 (i + 5) := hq5.trans (hA98 (i + 5) (by omega)).symm
  have f5 : g98 (i + 5) = aI E 16 (fun _ => 0) := (hg98 (i + 5) (by omega)).trans f5
  have hq6 : q6 = A98 (i + 6) := hq6.trans (hA98 (i + 6) (by omega)).symm
  have f6 : g98 (i + 6) = aI E 128 (fun _ => 0) := (hg98 (i + 6) (by omega)).trans f6
  have hq7 : q7 = A98 (i + 7) := hq7.trans (hA98 (i + 7) (by omega)).symm
  have f7 : g98 (i + 7) = aI E 128 (fun _ => 0) := (hg98 (i + 7) (by omega)).trans f7
  have hq8 : q8 = A98 (i + 8) := hq8.trans (hA98 (i + 8) (by omega)).symm
  have f8 : g98 (i + 8) = aI E 16 (fun _ => 0) := (hg98 (i + 8) (by omega)).trans f8
  have hq9 : q9 = A98 (i + 9) := hq9.trans (hA98 (i + 9) (by omega)).symm
  have f9 : g98 (i + 9) = aI E 10 (fun _ => 0) := (hg98 (i + 9) (by omega)).trans f9
  have hq10 : q10 = A98 (i + 10) := hq10.trans (hA98 (i + 10) (by omega)).symm
  have f10 : g98 (i + 10) = aI E 10 (fun _ => 0) := (hg98 (i + 10) (by omega)).trans f10
  have hq11 : q11 = A98 (i + 11) := hq11.trans (hA98 (i + 11) (by omega)).symm
  have f11 : g98 (i + 11) = aI E 21 (fun _ => 0) := (hg98 (i + 11) (by omega)).trans f11
  have hW : wH E (wF A (i + 1) sz) A98 (i + 13) s_ g98 H locs := hW
  refine W.widen (k := 12) (n := 40769) (Nat.le_of_ble_eq_true rfl) (Nat.le_of_ble_eq_true rfl) ?_
  refine xc_putF X hnm hW (v := .ref q12) ha (by omega) ho rfl w_5 tyX11 tyX11_ok nmX11 14 (by decide) w_18 rfl rfl rfl rfl (by show 14 < 21; decide) dX11_init_100 (fun g100 H locs ho hg100 hW => ?_)
  have ho : g100 i = .inr (11, [.ref q1, .ref q2, .ref q3, .ref q4, .int 0, .ref q5, .ref q6, .ref q7, .ref q8, .int 0, .ref q9, .ref q10, .ref q11, .int 0, .ref q12, .null, .int 0, .null, .null, .null, .int 0]) := ho
  have hGG : ∀ k, k < i → g100 k = g k := fun k hk => (hg100 k (by omega)).trans (hGG k hk)
  have f1 : g100 (i + 1) = aJ E 40000 (fun _ => 0) := (hg100 (i + 1) (by omega)).trans f1
  have f2 : g100 (i + 2) = aI E 10 (fun _ => 0) := (hg100 (i + 2) (by omega)).trans f2
  have f3 : g100 (i + 3) = aI E 10 (fun _ => 0) := (hg100 (i + 3) (by omega)).trans f3
  have f4 : g100 (i + 4) = aJ E 400 (fun _ => 0) := (hg100 (i + 4) (by omega)).trans f4
  have f5 : g100 (i + 5) = aI E 16 (fun _ => 0) := (hg100 (i + 5) (by omega)).trans f5
  have f6 : g100 (i + 6) = aI E 128 (fun _ => 0) := (hg100 (i + 6) (by omega)).trans f6
  have f7 : g100 (i + 7) = aI E 128 (fun _ => 0) := (hg100 (i + 7) (by omega)).trans f7
  have f8 : g100 (i + 8) = aI E 16 (fun _ => 0) := (hg100 (i + 8) (by omega)).trans f8
  have f9 : g100 (i + 9) = aI E 10 (fun _ => 0) := (hg100 (i + 9) (by omega)).trans f9
  have f10 : g100 (i + 10) = aI E 10 (fun _ => 0) := (hg100 (i + 10) (by omega)).trans f10
  have f11 : g100 (i + 11) = aI E 21 (fun _ => 0) := (hg100 (i + 11) (by omega)).trans f11
  have f12 : g100 (i + 12) = aI E 20 (fun _ => 0) := (hg100 (i + 12) (by omega)).trans f12
  have hW : wH E (wF A (i + 1) sz) A98 (i + 13) s_ g100 H locs := hW
  refine lv_aload_n X.1 X.2.1 dX11_init_103 rfl (lv_at hl 0 rfl) ?_
  refine x_bipush X (by decide) dX11_init_104 ?_
  refine x_newI X hW w_7 20 (by decide +kernel) (by decide +kernel) (by decide) (Nat.le_of_ble_eq_true rfl) (Nat.le_of_ble_eq_true rfl) dX11_init_106 (fun q13 A106 g106 H hq13 hA106 hg106 f13 hW => ?_)
  have ha : a0 = A106 i := ha.trans (hA106 (i) (by omega)).symm
  have hAA : ∀ k, k < i + 1 → A106 k = A k := fun k hk => (hA106 k (by omega)).trans (hAA k hk)
  have hGG : ∀ k, k < i → g106 k = g k := fun k hk => (hg106 k (by omega)).trans (hGG k hk)
  have ho : g106 i = .inr (11, [.ref q1, .ref q2, .ref q3, .ref q4, .int 0, .ref q5, .ref q6, .ref q7, .ref q8, .int 0, .ref q9, .ref q10, .ref q11, .int 0, .ref q12, .null, .int 0, .null, .null, .null, .int 0]) := (hg106 (i) (by omega)).trans ho
  have hq1 : q1 = A106 (i + 1) := hq1.trans (hA106 (i + 1) (by omega)).symm
  have f1 : g106 (i + 1) = aJ E 40000 (fun _ => 0) := (hg106 (i + 1) (by omega)).trans f1
  have hq2 : q2 = A106 (i + 2) := hq2.trans (hA106 (i + 2) (by omega)).symm
  have f2 : g106 (i + 2) = aI E 10 (fun _ => 0) := (hg106 (i + 2) (by omega)).trans f2
  have hq3 : q3 = A106 (i + 3) := hq3.trans (hA106 (i + 3) (by omega)).symm
  have f3 : g106 (i + 3) = aI E 10 (fun _ => 0) := (hg106 (i + 3) (by omega)).trans f3
  have hq4 : q4 = A106 (i + 4) := hq4.trans (hA106 (i + 4) (by omega)).symm
  have f4 : g106 (i + 4) = aJ E 400 (fun _ => 0) := (hg106 (i + 4) (by omega)).trans f4
  have hq5 : q5 = A106 (i + 5) := hq5.trans (hA106 (i + 5) (by omega)).symm
  have f5 : g106 (i + 5) = aI E 16 (fun _ => 0) := (hg106 (i + 5) (by omega)).trans f5
  have hq6 : q6 = A106 (i + 6) := hq6.trans (hA106 (i + 6) (by omega)).symm
  have f6 : g106 (i + 6) = aI E 128 (fun _ => 0) := (hg106 (i + 6) (by omega)).trans f6
  have hq7 : q7 = A106 (i + 7) := hq7.trans (hA106 (i + 7) (by omega)).symm
  have f7 : g106 (i + 7) = aI E 128 (fun _ => 0) := (hg106 (i + 7) (by omega)).trans f7
  have hq8 : q8 = A106 (i + 8) := hq8.trans (hA106 (i + 8) (by omega)).symm
  have f8 : g106 (i + 8) = aI E 16 (fun _ => 0) := (hg106 (i + 8) (by omega)).trans f8
  have hq9 : q9 = A106 (i + 9) := hq9.trans (hA106 (i + 9) (by omega)).symm
  have f9 : g106 (i + 9) = aI E 10 (fun _ => 0) := (hg106 (i + 9) (by omega)).trans f9
  have hq10 : q10 = A106 (i + 10) := hq10.trans (hA106 (i + 10) (by omega)).symm
  have f10 : g106 (i + 10) = aI E 10 (fun _ => 0) := (hg106 (i + 10) (by omega)).trans f10
  have hq11 : q11 = A106 (i + 11) := hq11.trans (hA106 (i + 11) (by omega)).symm
  have f11 : g106 (i + 11) = aI E 21 (fun _ => 0) := (hg106 (i + 11) (by omega)).trans f11
  have hq12 : q12 = A106 (i + 12) := hq12.trans (hA106 (i + 12) (by omega)).symm
  have f12 : g106 (i + 12) = aI E 20 (fun _ => 0) := (hg106 (i + 12) (by omega)).trans f12
  have hW : wH E (wF A (i + 1) sz) A106 (i + 14) s_ g106 H locs := hW
  refine W.widen (k := 13) (n := 40789) (Nat.le_of_ble_eq_true rfl) (Nat.le_of_ble_eq_true rfl) ?_
  refine xc_putF X hnm hW (v := .ref q13) ha (by omega) ho rfl w_5 tyX11 tyX11_ok nmX11 15 (by decide) w_19 rfl rfl rfl rfl (by show 15 < 21; decide) dX11_init_108 (fun g108 H locs ho hg108 hW => ?_)
  have ho : g108 i = .inr (11, [.ref q1, .ref q2, .ref q3, .ref q4, .int 0, .ref q5, .ref q6, .ref q7, .ref q8, .int 0, .ref q9, .ref q10, .ref q11, .int 0, .ref q12, .ref q13, .int 0, .null, .null, .null, .int 0]) := ho
  have hGG : ∀ k, k < i → g108 k = g k := fun k hk => (hg108 k (by omega)).trans (hGG k hk)
  have f1 : g108 (i + 1) = aJ E 40000 (fun _ => 0) := (hg108 (i + 1) (by omega)).trans f1
  have f2 : g108 (i + 2) = aI E 10 (fun _ => 0) := (hg108 (i + 2) (by omega)).trans f2
  have f3 : g108 (i + 3) = aI E 10 (fun _ => 0) := (hg108 (i + 3) (by omega)).trans f3
  have f4 : g108 (i + 4) = aJ E 400 (fun _ => 0) := (hg108 (i + 4) (by omega)).trans f4
  have f5 : g108 (i + 5) = aI E 16 (fun _ => 0) := (hg108 (i + 5) (by omega)).trans f5
  have f6 : g108 (i + 6) = aI E 128 (fun _ => 0) := (hg108 (i + 6) (by omega)).trans f6
  have f7 : g108 (i + 7) = aI E 128 (fun _ => 0) := (hg108 (i + 7) (by omega)).trans f7
  have f8 : g108 (i + 8) = aI E 16 (fun _ => 0) := (hg108 (i + 8) (by omega)).trans f8
  have f9 : g108 (i + 9) = aI E 10 (fun _ => 0) := (hg108 (i + 9) (by omega)).trans f9
  have f10 : g108 (i + 10) = aI E 10 (fun _ => 0) := (hg108 (i + 10) (by omega)).trans f10
  have f11 : g108 (i + 11) = aI E 21 (fun _ => 0) := (hg108 (i + 11) (by omega)).trans f11
  have f12 : g108 (i + 12) = aI E 20 (fun _ => 0) := (hg108 (i + 12) (by omega)).trans f12
  have f13 : g108 (i + 13) = aI E 20 (fun _ => 0) := (hg108 (i + 13) (by omega)).trans f13
  have hW : wH E (wF A (i + 1) sz) A106 (i + 14) s_ g108 H locs := hW
  refine lv_aload_n X.1 X.2.1 dX11_init_111 rfl (lv_at hl 0 rfl) ?_
  refine x_bipush X (by decide) dX11_init_112 ?_
  refine x_newI X hW w_7 6 (by decide +kernel) (by decide +kernel) (by decide) (Nat.le_of_ble_eq_true rfl) (Nat.le_of_ble_eq_true rfl) dX11_init_114 (fun q14 A114 g114 H hq14 hA114 hg114 f14 hW => ?_)
  have ha : a0 = A114 i := ha.trans (hA114 (i) (by omega)).symm
  have hAA : ∀ k, k < i + 1 → A114 k = A k := fun k hk => (hA114 k (by omega)).trans (hAA k hk)
  have hGG : ∀ k, k < i → g114 k = g k := fun k hk => (hg114 k (by omega)).trans (hGG k hk)
  have ho : g114 i = .inr (11, [.ref q1, .ref q2, .ref q3, .ref q4, .int 0, .ref q5, .ref q6, .ref q7, .ref q8, .int 0, .ref q9, .ref q10, .ref q11, .int 0, .ref q12, .ref q13, .int 0, .null, .null, .null, .int 0]) := (hg114 (i) (by omega)).trans ho
  have hq1 : q1 = A114 (i + 1) := hq1.trans (hA114 (i + 1) (by omega)).symm
  have f1 : g114 (i + 1) = aJ E 40000 (fun _ => 0) := (hg114 (i + 1) (by omega)).trans f1
  have hq2 : q2 = A114 (i + 2) := hq2.trans (hA114 (i + 2) (by omega)).symm
  have f2 : g114 (i + 2) = aI E 10 (fun _ => 0) := (hg114 (i + 2) (by omega)).trans f2
  have hq3 : q3 = A114 (i + 3) := hq3.trans (hA114 (i + 3) (by omega)).symm
  have f3 : g114 (i + 3) = aI E 10 (fun _ => 0) := (hg114 (i + 3) (by omega)).trans f3
  have hq4 : q4 = A114 (i + 4) := hq4.trans (hA114 (i + 4) (by omega)).symm
  have f4 : g114 (i + 4) = aJ E 400 (fun _ => 0) := (hg114 (i + 4) (by omega)).trans f4
  have hq5 : q5 = A114 (i + 5) := hq5.trans (hA114 (i + 5) (by omega)).symm
  have f5 : g114 (i + 5) = aI E 16 (fun _ => 0) := (hg114 (i + 5) (by omega)).trans f5
  have hq6 : q6 = A114 (i + 6) := hq6.trans (hA114 (i + 6) (by omega)).symm
  have f6 : g114 (i + 6) = aI E 128 (fun _ => 0) := (hg114 (i + 6) (by omega)).trans f6
  have hq7 : q7 = A114 (i + 7) := hq7.trans (hA114 (i + 7) (by omega)).symm
  have f7 : g114 (i + 7) = aI E 128 (fun _ => 0) := (hg114 (i + 7) (by omega)).trans f7
  have hq8 : q8 = A114 (i + 8) := hq8.trans (hA114 (i + 8) (by omega)).symm
  have f8 : g114 (i + 8) = aI E 16 (fun _ => 0) := (hg114 (i + 8) (by omega)).trans f8
  have hq9 : q9 = A114 (i + 9) := hq9.trans (hA114 (i + 9) (by omega)).symm
  have f9 : g114 (i + 9) = aI E 10 (fun _ => 0) := (hg114 (i + 9) (by omega)).trans f9
  have hq10 : q10 = A114 (i + 10) := hq10.trans (hA114 (i + 10) (by omega)).symm
  have f10 : g114 (i + 10) = aI E 10 (fun _ => 0) := (hg114 (i + 10) (by omega)).trans f10
  have hq11 : q11 = A114 (i + 11) := hq11.trans (hA114 (i + 11) (by omega)).symm
  have f11 : g114 (i + 11) = aI E 21 (fun _ => 0) := (hg114 (i + 11) (by omega)).trans f11
  have hq12 : q12 = A114 (i + 12) := hq12.trans (hA114 (i + 12) (by omega)).symm
  have f12 : g114 (i + 12) = aI E 20 (fun _ => 0) := (hg114 (i + 12) (by omega)).trans f12
  have hq13 : q13 = A114 (i + 13) := hq13.trans (hA114 (i + 13) (by omega)).symm
  have f13 : g114 (i + 13) = aI E 20 (fun _ => 0) := (hg114 (i + 13) (by omega)).trans f13
  have hW : wH E (wF A (i + 1) sz) A114 (i + 15) s_ g114 H locs := hW
  refine W.widen (k := 14) (n := 40795) (Nat.le_of_ble_eq_true rfl) (Nat.le_of_ble_eq_true rfl) ?_
  refine xc_putF X hnm hW (v := .ref q14) ha (by omega) ho rfl w_5 tyX11 tyX11_ok nmX11 17 (by decide) w_20 rfl rfl rfl rfl (by show 17 < 21; decide) dX11_init_116 (fun g116 H locs ho hg116 hW => ?_)
  have ho : g116 i = .inr (11, [.ref q1, .ref q2, .ref q3, .ref q4, .int 0, .ref q5, .ref q6, .ref q7, .ref q8, .int 0, .ref q9, .ref q10, .ref q11, .int 0, .ref q12, .ref q13, .int 0, .ref q14, .null, .null, .int 0]) := ho
  have hGG : ∀ k, k < i → g116 k = g k := fun k hk => (hg116 k (by omega)).trans (hGG k hk)
  have f1 : g116 (i + 1) = aJ E 40000 (fun _ => 0) := (hg116 (i + 1) (by omega)).trans f1
  have f2 : g116 (i + 2) = aI E 10 (fun _ => 0) := (hg116 (i + 2) (by omega)).trans f2
  have f3 : g116 (i + 3) = aI E 10 (fun _ => 0) := (hg116 (i + 3) (by omega)).trans f3
  have f4 : g116 (i + 4) = aJ E 400 (fun _ => 0) := (hg116 (i + 4) (by omega)).trans f4
  have f5 : g116 (i + 5) = aI E 16 (fun _ => 0) := (hg116 (i + 5) (by omega)).trans f5
  have f6 : g116 (i + 6) = aI E 128 (fun _ => 0) := (hg116 (i + 6) (by omega)).trans f6
  have f7 : g116 (i + 7) = aI E 128 (fun _ => 0) := (hg116 (i + 7) (by omega)).trans f7
  have f8 : g116 (i + 8) = aI E 16 (fun _ => 0) := (hg116 (i + 8) (by omega)).trans f8
  have f9 : g116 (i + 9) = aI E 10 (fun _ => 0) := (hg116 (i + 9) (by omega)).trans f9
  have f10 : g116 (i + 10) = aI E 10 (fun _ => 0) := (hg116 (i + 10) (by omega)).trans f10
  have f11 : g116 (i + 11) = aI E 21 (fun _ => 0) := (hg116 (i + 11) (by omega)).trans f11
  have f12 : g116 (i + 12) = aI E 20 (fun _ => 0) := (hg116 (i + 12) (by omega)).trans f12
  have f13 : g116 (i + 13) = aI E 20 (fun _ => 0) := (hg116 (i + 13) (by omega)).trans f13
  have f14 : g116 (i + 14) = aI E 6 (fun _ => 0) := (hg116 (i + 14) (by omega)).trans f14
  have hW : wH E (wF A (i + 1) sz) A114 (i + 15) s_ g116 H locs := hW
  refine lv_aload_n X.1 X.2.1 dX11_init_119 rfl (lv_at hl 0 rfl) ?_
  refine x_bipush X (by decide) dX11_init_120 ?_
  refine x_newI X hW w_7 6 (by decide +kernel) (by decide +kernel) (by decide) (Nat.le_of_ble_eq_true rfl) (Nat.le_of_ble_eq_true rfl) dX11_init_122 (fun q15 A122 g122 H hq15 hA122 hg122 f15 hW => ?_)
  have ha : a0 = A122 i := ha.trans (hA122 (i) (by omega)).symm
  have hAA : ∀ k, k < i + 1 → A122 k = A k := fun k hk => (hA122 k (by omega)).trans (hAA k hk)
  have hGG : ∀ k, k < i → g122 k = g k := fun k hk => (hg122 k (by omega)).trans (hGG k hk)
  have ho : g122 i = .inr (11, [.ref q1, .ref q2, .ref q3, .ref q4, .int 0, .ref q5, .ref q6, .ref q7, .ref q8, .int 0, .ref q9, .ref q10, .ref q11, .int 0, .ref q12, .ref q13, .int 0, .ref q14, .null, .null, .int 0]) := (hg122 (i) (by omega)).trans ho
  have hq1 : q1 = A122 (i + 1) := hq1.trans (hA122 (i + 1) (by omega)).symm
  have f1 : g122 (i + 1) = aJ E 40000 (fun _ => 0) := (hg122 (i + 1) (by omega)).trans f1
  have hq2 : q2 = A122 (i + 2) := hq2.trans (hA122 (i + 2) (by omega)).symm
  have f2 : g122 (i + 2) = aI E 10 (fun _ => 0) := (hg122 (i + 2) (by omega)).trans f2
  have hq3 : q3 = A122 (i + 3) := hq3.trans (hA122 (i + 3) (by omega)).symm
  have f3 : g122 (i + 3) = aI E 10 (fun _ => 0) := (hg122 (i + 3) (by omega)).trans f3
  have hq4 : q4 = A122 (i + 4) := hq4.trans (hA122 (i + 4) (by omega)).symm
  have f4 : g122 (i + 4) = aJ E 400 (fun _ => 0) := (hg122 (i + 4) (by omega)).trans f4
  have hq5 : q5 = A122 (i + 5) := hq5.trans (hA122 (i + 5) (by omega)).symm
  have f5 : g122 (i + 5) = aI E 16 (fun _ => 0) := (hg122 (i + 5) (by omega)).trans f5
  have hq6 : q6 = A122 (i + 6) := hq6.trans (hA122 (i + 6) (by omega)).symm
  have f6 : g122 (i + 6) = aI E 128 (fun _ => 0) := (hg122 (i + 6) (by omega)).trans f6
  have hq7 : q7 = A122 (i + 7) := hq7.trans (hA122 (i + 7) (by omega)).symm
  have f7 : g122 (i + 7) = aI E 128 (fun _ => 0) := (hg122 (i + 7) (by omega)).trans f7
  have hq8 : q8 = A122 (i + 8) := hq8.trans (hA122 (i + 8) (by omega)).symm
  have f8 : g122 (i + 8) = aI E 16 (fun _ => 0) := (hg122 (i + 8) (by omega)).trans f8
  have hq9 : q9 = A122 (i + 9) := hq9.trans (hA122 (i + 9) (by omega)).symm
  have f9 : g122 (i + 9) = aI E 10 (fun _ => 0) := (hg122 (i + 9) (by omega)).trans f9
  have hq10 : q10 = A122 (i + 10) := hq10.trans (hA122 (i + 10) (by omega)).symm
  have f10 : g122 (i + 10) = aI E 10 (fun _ => 0) := (hg122 (i + 10) (by omega)).trans f10
  have hq11 : q11 = A122 (i + 11) := hq11.trans (hA122 (i + 11) (by omega)).symm
  have f11 : g122 (i + 11) = aI E 21 (fun _ => 0) := (hg122 (i + 11) (by omega)).trans f11
  have hq12 : q12 = A122 (i + 12) := hq12.trans (hA122 (i + 12) (by omega)).symm
  have f12 : g122 (i + 12) = aI E 20 (fun _ => 0) := (hg122 (i + 12) (by omega)).trans f12
  have hq13 : q13 = A122 (i + 13) := hq13.trans (hA122 (i + 13) (by omega)).symm
  have f13 : g122 (i + 13) = aI E 20 (fun _ => 0) := (hg122 (i + 13) (by omega)).trans f13
  have hq14 : q14 = A122 (i + 14) := hq14.trans (hA122 (i + 14) (by omega)).symm
  have f14 : g122 (i + 14) = aI E 6 (fun _ => 0) := (hg122 (i + 14) (by omega)).trans f14
  have hW : wH E (wF A (i + 1) sz) A122 (i + 16) s_ g122 H locs := hW
  refine W.widen (k := 15) (n := 40801) (Nat.le_of_ble_eq_true rfl) (Nat.le_of_ble_eq_true rfl) ?_
  refine xc_putF X hnm hW (v := .ref q15) ha (by omega) ho rfl w_5 tyX11 tyX11_ok nmX11 18 (by decide) w_21 rfl rfl rfl rfl (by show 18 < 21; decide) dX11_init_124 (fun g124 H locs ho hg124 hW => ?_)
  have ho : g124 i = .inr (11, [.ref q1, .ref q2, .ref q3, .ref q4, .int 0, .ref q5, .ref q6, .ref q7, .ref q8, .int 0, .ref q9, .ref q10, .ref q11, .int 0, .ref q12, .ref q13, .int 0, .ref q14, .ref q15, .null, .int 0]) := ho
  have hGG : ∀ k, k < i → g124 k = g k := fun k hk => (hg124 k (by omega)).trans (hGG k hk)
  have f1 : g124 (i + 1) = aJ E 40000 (fun _ => 0) := (hg124 (i + 1) (by omega)).trans f1
  have f2 : g124 (i + 2) = aI E 10 (fun _ => 0) := (hg124 (i + 2) (by omega)).trans f2
  have f3 : g124 (i + 3) = aI E 10 (fun _ => 0) := (hg124 (i + 3) (by omega)).trans f3
  have f4 : g124 (i + 4) = aJ E 400 (fun _ => 0) := (hg124 (i + 4) (by omega)).trans f4
  have f5 : g124 (i + 5) = aI E 16 (fun _ => 0) := (hg124 (i + 5) (by omega)).trans f5
  have f6 : g124 (i + 6) = aI E 128 (fun _ => 0) := (hg124 (i + 6) (by omega)).trans f6
  have f7 : g124 (i + 7) = aI E 128 (fun _ => 0) := (hg124 (i + 7) (by omega)).trans f7
  have f8 : g124 (i + 8) = aI E 16 (fun _ => 0) := (hg124 (i + 8) (by omega)).trans f8
  have f9 : g124 (i + 9) = aI E 10 (fun _ => 0) := (hg124 (i + 9) (by omega)).trans f9
  have f10 : g124 (i + 10) = aI E 10 (fun _ => 0) := (hg124 (i + 10) (by omega)).trans f10
  have f11 : g124 (i + 11) = aI E 21 (fun _ => 0) := (hg124 (i + 11) (by omega)).trans f11
  have f12 : g124 (i + 12) = aI E 20 (fun _ => 0) := (hg124 (i + 12) (by omega)).trans f12
  have f13 : g124 (i + 13) = aI E 20 (fun _ => 0) := (hg124 (i + 13) (by omega)).trans f13
  have f14 : g124 (i + 14) = aI E 6 (fun _ => 0) := (hg124 (i + 14) (by omega)).trans f14
  have f15 : g124 (i + 15) = aI E 6 (fun _ => 0) := (hg124 (i + 15) (by omega)).trans f15
  have hW : wH E (wF A (i + 1) sz) A122 (i + 16) s_ g124 H locs := hW
  refine lv_aload_n X.1 X.2.1 dX11_init_127 rfl (lv_at hl 0 rfl) ?_
  refine x_bipush X (by decide) dX11_init_128 ?_
  refine x_newI X hW w_7 50 (by decide +kernel) (by decide +kernel) (by decide) (Nat.le_of_ble_eq_true rfl) (Nat.le_of_ble_eq_true rfl) dX11_init_130 (fun q16 A130 g130 H hq16 hA130 hg130 f16 hW => ?_)
  have ha : a0 = A130 i := ha.trans (hA130 (i) (by omega)).symm
  have hAA : ∀ k, k < i + 1 → A130 k = A k := fun k hk => (hA130 k (by omega)).trans (hAA k hk)
  have hGG : ∀ k, k < i → g130 k = g k := fun k hk => (hg130 k (by omega)).trans (hGG k hk)
  have ho : g130 i = .inr (11, [.ref q1, .ref q2, .ref q3, .ref q4, .int 0, .ref q5, .ref q6, .ref q7, .ref q8, .int 0, .ref q9, .ref q10, .ref q11, .int 0, .ref q12, .ref q13, .int 0, .ref q14, .ref q15, .null, .int 0]) := (hg130 (i) (by omega)).trans ho
  have hq1 : q1 = A130 (i + 1) := hq1.trans (hA130 (i + 1) (by omega)).symm
  have f1 : g130 (i + 1) = aJ E 40000 (fun _ => 0) := (hg130 (i + 1) (by omega)).trans f1
  have hq2 : q2 = A130 (i + 2) := hq2.trans (hA130 (i + 2) (by omega)).symm
  have f2 : g130 (i + 2) = aI E 10 (fun _ => 0) := (hg130 (i + 2) (by omega)).trans f2
  have hq3 : q3 = A130 (i + 3) := hq3.trans (hA130 (i + 3) (by omega)).symm
  have f3 : g130 (i + 3) = aI E 10 (fun _ => 0) := (hg130 (i + 3) (by omega)).trans f3
  have hq4 : q4 = A130 (i + 4) := hq4.trans (hA130 (i + 4) (by omega)).symm
  have f4 : g130 (i + 4) = aJ E 400 (fun _ => 0) := (hg130 (i + 4) (by omega)).trans f4
  have hq5 : q5 = A130 (i + 5) := hq5.trans (hA130 (i + 5) (by omega)).symm
  have f5 : g130 (i + 5) = aI E 16 (fun _ => 0) := (hg130 (i + 5) (by omega)).trans f5
  have hq6 : q6 = A130 (i + 6) := hq6.trans (hA130 (i + 6) (by omega)).symm
  have f6 : g130 (i + 6) = aI E 128 (fun _ => 0) := (hg130 (i + 6) (by omega)).trans f6
  have hq7 : q7 = A130 (i + 7) := hq7.trans (hA130 (i + 7) (by omega)).symm
  have f7 : g130 (i + 7) = aI E 128 (fun _ => 0) := (hg130 (i + 7) (by omega)).trans f7
  have hq8 : q8 = A130 (i + 8) := hq8.trans (hA130 (i + 8) (by omega)).symm
  have f8 : g130 (i + 8) = aI E 16 (fun _ => 0) := (hg130 (i + 8) (by omega)).trans f8
  have hq9 : q9 = A130 (i + 9) := hq9.trans (hA130 (i + 9) (by omega)).symm
  have f9 : g130 (i + 9) = aI E 10 (fun _ => 0) := (hg130 (i + 9) (by omega)).trans f9
  have hq10 : q10 = A130 (i + 10) := hq10.trans (hA130 (i + 10) (by omega)).symm
  have f10 : g130 (i + 10) = aI E 10 (fun _ => 0) := (hg130 (i + 10) (by omega)).trans f10
  have hq11 : q11 = A130 (i + 11) := hq11.trans (hA130 (i + 11) (by omega)).symm
  have f11 : g130 (i + 11) = aI E 21 (fun _ => 0) := (hg130 (i + 11) (by omega)).trans f11
  have hq12 : q12 = A130 (i + 12) := hq12.trans (hA130 (i + 12) (by omega)).symm
  have f12 : g130 (i + 12) = aI E 20 (fun _ => 0) := (hg130 (i + 12) (by omega)).trans f12
  have hq13 : q13 = A130 (i + 13) := hq13.trans (hA130 (i + 13) (by omega)).symm
  have f13 : g130 (i + 13) = aI E 20 (fun _ => 0) := (hg130 (i + 13) (by omega)).trans f13
  have hq14 : q14 = A130 (i + 14) := hq14.trans (hA130 (i + 14) (by omega)).symm
  have f14 : g130 (i + 14) = aI E 6 (fun _ => 0) := (hg130 (i + 14) (by omega)).trans f14
  have hq15 : q15 = A130 (i + 15) := hq15.trans (hA130 (i + 15) (by omega)).symm
  have f15 : g130 (i + 15) = aI E 6 (fun _ => 0) := (hg130 (i + 15) (by omega)).trans f15
  have hW : wH E (wF A (i + 1) sz) A130 (i + 17) s_ g130 H locs := hW
  refine W.widen (k := 16) (n := 40851) (Nat.le_of_ble_eq_true rfl) (Nat.le_of_ble_eq_true rfl) ?_
  refine xc_putF X hnm hW (v := .ref q16) ha (by omega) ho rfl w_5 tyX11 tyX11_ok nmX11 19 (by decide) w_22 rfl rfl rfl rfl (by show 19 < 21; decide) dX11_init_132 (fun g132 H locs ho hg132 hW => ?_)
  have ho : g132 i = .inr (11, [.ref q1, .ref q2, .ref q3, .ref q4, .int 0, .ref q5, .ref q6, .ref q7, .ref q8, .int 0, .ref q9, .ref q10, .ref q11, .int 0, .ref q12, .ref q13, .int 0, .ref q14, .ref q15, .ref q16, .int 0]) := ho
  have hGG : ∀ k, k < i → g132 k = g k := fun k hk => (hg132 k (by omega)).trans (hGG k hk)
  have f1 : g132 (i + 1) = aJ E 40000 (fun _ => 0) := (hg132 (i + 1) (by omega)).trans f1
  have f2 : g132 (i + 2) = aI E 10 (fun _ => 0) := (hg132 (i + 2) (by omega)).trans f2
  have f3 : g132 (i + 3) = aI E 10 (fun _ => 0) := (hg132 (i + 3) (by omega)).trans f3
  have f4 : g132 (i + 4) = aJ E 400 (fun _ => 0) := (hg132 (i + 4) (by omega)).trans f4
  have f5 : g132 (i + 5) = aI E 16 (fun _ => 0) := (hg132 (i + 5) (by omega)).trans f5
  have f6 : g132 (i + 6) = aI E 128 (fun _ => 0) := (hg132 (i + 6) (by omega)).trans f6
  have f7 : g132 (i + 7) = aI E 128 (fun _ => 0) := (hg132 (i + 7) (by omega)).trans f7
  have f8 : g132 (i + 8) = aI E 16 (fun _ => 0) := (hg132 (i + 8) (by omega)).trans f8
  have f9 : g132 (i + 9) = aI E 10 (fun _ => 0) := (hg132 (i + 9) (by omega)).trans f9
  have f10 : g132 (i + 10) = aI E 10 (fun _ => 0) := (hg132 (i + 10) (by omega)).trans f10
  have f11 : g132 (i + 11) = aI E 21 (fun _ => 0) := (hg132 (i + 11) (by omega)).trans f11
  have f12 : g132 (i + 12) = aI E 20 (fun _ => 0) := (hg132 (i + 12) (by omega)).trans f12
  have f13 : g132 (i + 13) = aI E 20 (fun _ => 0) := (hg132 (i + 13) (by omega)).trans f13
  have f14 : g132 (i + 14) = aI E 6 (fun _ => 0) := (hg132 (i + 14) (by omega)).trans f14
  have f15 : g132 (i + 15) = aI E 6 (fun _ => 0) := (hg132 (i + 15) (by omega)).trans f15
  have f16 : g132 (i + 16) = aI E 50 (fun _ => 0) := (hg132 (i + 16) (by omega)).trans f16
  have hW : wH E (wF A (i + 1) sz) A130 (i + 17) s_ g132 H locs := hW
  refine lv_aload_n X.1 X.2.1 dX11_init_135 rfl (lv_at hl 0 rfl) ?_
  refine x_iconst X dX11_init_136 ?_
  refine x_lconst X 0 (by decide) dX11_init_137 ?_
  rw [hq1, hq2, hq3, hq4, hq5, hq6, hq7, hq8, hq9, hq10, hq11, hq12, hq13, hq14, hq15, hq16] at ho
  have ho : g132 i = mO A130 i (fun _ => 0) := ho
  have hN := MN_zero (A := A130) f1
  rw [ha]
  refine x_cv (x_runV (As := [.int (iI (((0 : Nat) : Int))), .long (lI 0)]) (k := 2) X hW (c_X11_set l E A130 (i + 17) H.size g132 i 0 (fun _ => 0) (fun _ => (0 : Int)) 0 (by omega) ho (by omega) hN (by omega) (by omega)) (by omega) ho rfl gX11_init_X11_set rfl rfl rfl (by decide +kernel) ⟨(Nat.le_of_ble_eq_true rfl), (Nat.le_of_ble_eq_true rfl)⟩ rfl hl.1 rfl (Nat.le_of_ble_eq_true rfl) dX11_init_138 ⟨(Nat.le_of_ble_eq_true rfl), (Nat.le_of_ble_eq_true rfl)⟩) hW (fun g138 H locs hp138 hW => ?_)
  obtain ⟨hN, hg138⟩ := hp138
  have ho : g138 i = mO A130 i (fun _ => 0) := (hg138 i (by omega)).trans ho
  have hGG : ∀ k, k < i → g138 k = g k := fun k hk => (hg138 k (by omega)).trans (hGG k hk)
  have f2 : g138 (i + 2) = aI E 10 (fun _ => 0) := (hg138 (i + 2) (by omega)).trans f2
  have f3 : g138 (i + 3) = aI E 10 (fun _ => 0) := (hg138 (i + 3) (by omega)).trans f3
  have f4 : g138 (i + 4) = aJ E 400 (fun _ => 0) := (hg138 (i + 4) (by omega)).trans f4
  have f5 : g138 (i + 5) = aI E 16 (fun _ => 0) := (hg138 (i + 5) (by omega)).trans f5
  have f6 : g138 (i + 6) = aI E 128 (fun _ => 0) := (hg138 (i + 6) (by omega)).trans f6
  have f7 : g138 (i + 7) = aI E 128 (fun _ => 0) := (hg138 (i + 7) (by omega)).trans f7
  have f8 : g138 (i + 8) = aI E 16 (fun _ => 0) := (hg138 (i + 8) (by omega)).trans f8
  have f9 : g138 (i + 9) = aI E 10 (fun _ => 0) := (hg138 (i + 9) (by omega)).trans f9
  have f10 : g138 (i + 10) = aI E 10 (fun _ => 0) := (hg138 (i + 10) (by omega)).trans f10
  have f11 : g138 (i + 11) = aI E 21 (fun _ => 0) := (hg138 (i + 11) (by omega)).trans f11
  have f12 : g138 (i + 12) = aI E 20 (fun _ => 0) := (hg138 (i + 12) (by omega)).trans f12
  have f13 : g138 (i + 13) = aI E 20 (fun _ => 0) := (hg138 (i + 13) (by omega)).trans f13
  have f14 : g138 (i + 14) = aI E 6 (fun _ => 0) := (hg138 (i + 14) (by omega)).trans f14
  have f15 : g138 (i + 15) = aI E 6 (fun _ => 0) := (hg138 (i + 15) (by omega)).trans f15
  have f16 : g138 (i + 16) = aI E 50 (fun _ => 0) := (hg138 (i + 16) (by omega)).trans f16
  refine lv_aload_n X.1 X.2.1 dX11_init_141 rfl (lv_at hl 0 rfl) ?_
  refine x_iconst X dX11_init_142 ?_
  refine x_lconst X 1 (by decide) dX11_init_143 ?_
  rw [ha]
  refine x_cv (x_runV (As := [.int (iI (((1 : Nat) : Int))), .long (lI 1)]) (k := 2) X hW (c_X11_set l E A130 (i + 17) H.size g138 i 1 (fun _ => 0) (va_up (fun _ => (0 : Int)) 0 0) 1 (by omega) ho (by omega) hN (by omega) (by omega)) (by omega) ho rfl gX11_init_X11_set rfl rfl rfl (by decide +kernel) ⟨(Nat.le_of_ble_eq_true rfl), (Nat.le_of_ble_eq_true rfl)⟩ rfl hl.1 rfl (Nat.le_of_ble_eq_true rfl) dX11_init_144 ⟨(Nat.le_of_ble_eq_true rfl), (Nat.le_of_ble_eq_true rfl)⟩) hW (fun g144 H locs hp144 hW => ?_)
  obtain ⟨hN, hg144⟩ := hp144
  have ho : g144 i = mO A130 i (fun _ => 0) := (hg144 i (by omega)).trans ho
  have hGG : ∀ k, k < i → g144 k = g k := fun k hk => (hg144 k (by omega)).trans (hGG k hk)
  have f2 : g144 (i + 2) = aI E 10 (fun _ => 0) := (hg144 (i + 2) (by omega)).trans f2
  have f3 : g144 (i + 3) = aI E 10 (fun _ => 0) := (hg144 (i + 3) (by omega)).trans f3
  have f4 : g144 (i + 4) = aJ E 400 (fun _ => 0) := (hg144 (i + 4) (by omega)).trans f4
  have f5 : g144 (i + 5) = aI E 16 (fun _ => 0) := (hg144 (i + 5) (by omega)).trans f5
  have f6 : g144 (i + 6) = aI E 128 (fun _ => 0) := (hg144 (i + 6) (by omega)).trans f6
  have f7 : g144 (i + 7) = aI E 128 (fun _ => 0) := (hg144 (i + 7) (by omega)).trans f7
  have f8 : g144 (i + 8) = aI E 16 (fun _ => 0) := (hg144 (i + 8) (by omega)).trans f8
  have f9 : g144 (i + 9) = aI E 10 (fun _ => 0) := (hg144 (i + 9) (by omega)).trans f9
  have f10 : g144 (i + 10) = aI E 10 (fun _ => 0) := (hg144 (i + 10) (by omega)).trans f10
  have f11 : g144 (i + 11) = aI E 21 (fun _ => 0) := (hg144 (i + 11) (by omega)).trans f11
  have f12 : g144 (i + 12) = aI E 20 (fun _ => 0) := (hg144 (i + 12) (by omega)).trans f12
  have f13 : g144 (i + 13) = aI E 20 (fun _ => 0) := (hg144 (i + 13) (by omega)).trans f13
  have f14 : g144 (i + 14) = aI E 6 (fun _ => 0) := (hg144 (i + 14) (by omega)).trans f14
  have f15 : g144 (i + 15) = aI E 6 (fun _ => 0) := (hg144 (i + 15) (by omega)).trans f15
  have f16 : g144 (i + 16) = aI E 50 (fun _ => 0) := (hg144 (i + 16) (by omega)).trans f16
  exact x_vretC X hr hlk hW (Nat.le_of_ble_eq_true rfl) (Nat.le_of_ble_eq_true rfl) ⟨hAA, hGG, ho, ⟨_, hN, rfl, rfl⟩, f2, f3, f4, f5, f6, f7, f8, f9, f10, f11, f12, f13, f14, f15, f16⟩ dX11_init_147
