set_option maxHeartbeats 4000000 in
set_option maxRecDepth 100000 in
theorem c_X3_init (l : Launch) (E : wE) (A : Nat → Nat) (n sz : Nat) (g : Nat → va_E) (i : Nat) (hn : n = i + 1) (hg : g i = .inr (3, [.null, .null, .int 0])) : Met l yX3_init wsX3_init ({ frames := 2, cells := 4, slots := 30, locals := 60 } : Room) (va_Pc [.ref (A i)] (wPreC E A n sz g)) (va_Qv (fun u : (Nat → Nat) × (Nat → va_E) => (∀ k, k < n → u.1 k = A k) ∧ (∀ k, k < i → u.2 k = g k) ∧ CrB E u.1 u.2 i) (wAtC E (wF A n sz) (n + 4)) (wF A n sz)) 4 30 (wF A n sz) := by
  subst hn
  refine x_metC (cc := cX3_init) (maxL := 2) (ret := none) [.ref (A i)] (by decide) rfl (Nat.le_of_ble_eq_true rfl) ?_
  intro p_ e_ s_ m_ args below meth c_ ls X hr hlk hnm hsz hW hO hl
  obtain ⟨a0, ha⟩ : ∃ a0, a0 = A i := ⟨_, rfl⟩
  have hl : lv_has ls 2 [(0, .ref a0)] := by rw [ha]; exact hl
  generalize ([] : List Loc) = locs at hW ⊢
  have w_0 : Cond.methodLink RX3 3 objectInit ∈ wsX3_init := by decide +kernel
  have w_1 : Cond.instanceMethod objectInit ∈ wsX3_init := by decide +kernel
  have w_2 : Cond.code objectInit ⟨#[0xb1]⟩ 1 none ∈ wsX3_init := List.mem_of_getElem? (i := 3) rfl
  have w_3 : Cond.classLink RX3 9 RX0 ∈ wsX3_init := by decide +kernel
  have w_4 : Cond.instantiable RX0 4 ∈ wsX3_init := by decide +kernel
  have w_5 : Cond.initialized RX0 ∈ wsX3_init := by decide +kernel
  have w_6 : ∀ w ∈ u_ws RX0 TX0 4, w ∈ wsX3_init := by decide +kernel
  have w_7 : Cond.instanceMethod yX0_init ∈ wsX3_init := by decide +kernel
  have w_8 : ∀ w ∈ u_ws RX3 TX3 3, w ∈ wsX3_init := by decide +kernel
  have w_9 : Cond.fieldLink RX3 12 (TX3 0).1 (TX3 0).2.1 (TX3 0).2.2.1 ∈ wsX3_init := by decide +kernel
  have w_10 : Cond.fieldLink RX3 18 (TX3 1).1 (TX3 1).2.1 (TX3 1).2.2.1 ∈ wsX3_init := by decide +kernel
  have w_11 : Cond.fieldLink RX3 22 (TX3 2).1 (TX3 2).2.1 (TX3 2).2.2.1 ∈ wsX3_init := by decide +kernel
  have hAA : ∀ k, k < i + 1 → A k = A k := fun _ _ => rfl
  have hGG : ∀ k, k < i → g k = g k := fun _ _ => rfl
  have ho : g i = .inr (3, [.null, .null, .int 0]) := hg
  refine lv_aload_n X.1 X.2.1 dX3_init_0 rfl (lv_at hl 0 rfl) ?_
  refine x_objInit X w_0 w_1 w_2 hl.1 (Nat.le_of_ble_eq_true rfl) (Nat.le_of_ble_eq_true rfl) dX3_init_1 ?_
  refine lv_aload_n X.1 X.2.1 dX3_init_4 rfl (lv_at hl 0 rfl) ?_
  refine x_new X hW (ci := 0) (fs := [.null, .null, .int 0, .int 0]) rfl w_6 tyX0 tyX0_ok w_3 w_4 w_5 dfX0 (Nat.le_of_ble_eq_true rfl) (Nat.le_of_ble_eq_true rfl) dX3_init_5 (fun q1 A5 g5 H hq1 hA5 hg5 f1 hW => ?_)
  have ha : a0 = A5 i := ha.trans (hA5 (i) (by omega)).symm
  have hAA : ∀ k, k < i + 1 → A5 k = A k := fun k hk => (hA5 k (by omega)).trans (hAA k hk)
  have hGG : ∀ k, k < i → g5 k = g k := fun k hk => (hg5 k (by omega)).trans (hGG k hk)
  have ho : g5 i = .inr (3, [.null, .null, .int 0]) := (hg5 (i) (by omega)).trans ho
  have hW : wH E (wF A (i + 1) sz) A5 (i + 2) s_ g5 H locs := hW
  refine W.widen (k := 1) (n := 4) (Nat.le_of_ble_eq_true rfl) (Nat.le_of_ble_eq_true rfl) ?_
  refine lv_dup X.1 X.2.1 dX3_init_8 rfl ?_
  refine x_cIN X hW hO hq1 (c_X0_init l E A5 (i + 2) H.size g5 (i + 1) rfl f1) gX3_init_X0_init_n11 rfl rfl rfl (by decide) w_5 w_7 rfl (by decide +kernel) ⟨(Nat.le_of_ble_eq_true rfl), (Nat.le_of_ble_eq_true rfl)⟩ hl.1 (Nat.le_of_ble_eq_true rfl) dX3_init_9 ⟨(Nat.le_of_ble_eq_true rfl), (Nat.le_of_ble_eq_true rfl)⟩ (fun A9 g9 H locs hp9 hW => ?_)
  obtain ⟨hA9, hg9, v1⟩ := hp9
  have ha : a0 = A9 i := ha.trans (hA9 (i) (by omega)).symm
  have hAA : ∀ k, k < i + 1 → A9 k = A k := fun k hk => (hA9 k (by omega)).trans (hAA k hk)
  have hGG : ∀ k, k < i → g9 k = g k := fun k hk => (hg9 k (by omega)).trans (hGG k hk)
  have ho : g9 i = .inr (3, [.null, .null, .int 0]) := (hg9 (i) (by omega)).trans ho
  have hq1 : q1 = A9 (i + 1) := hq1.trans (hA9 (i + 1) (by omega)).symm
  have hW : wH E (wF A (i + 1) sz) A9 (i + 4) s_ g9 H locs := hW
  refine W.widen (k := 3) (n := 20) (Nat.le_of_ble_eq_true rfl) (Nat.le_of_ble_eq_true rfl) ?_
  refine xc_putF X hnm hW (v := .ref q1) ha (by omega) ho rfl w_8 tyX3 tyX3_ok nmX3 0 (by decide) w_9 rfl rfl rfl rfl (by show 0 < 3; decide) dX3_init_12 (fun g12 H locs ho hg12 hW => ?_)
  have ho : g12 i = .inr (3, [.ref q1, .null, .int 0]) := ho
  have hGG : ∀ k, k < i → g12 k = g k := fun k hk => (hg12 k (by omega)).trans (hGG k hk)
  have v1 : BookC E A9 g12 (i + 1) 0 (fun _ => 0) (fun _ => 0) 0 := v1.mv (fun _ _ _ => rfl) (fun k h1 h2 => hg12 k (by omega))
  have hW : wH E (wF A (i + 1) sz) A9 (i + 4) s_ g12 H locs := hW
  refine lv_aload_n X.1 X.2.1 dX3_init_15 rfl (lv_at hl 0 rfl) ?_
  refine x_bipush X (by decide) dX3_init_16 ?_
  refine x_newR X hW (t := 2) rfl w_3 hO.1 10 (by decide +kernel) (by decide +kernel) (by decide) (Nat.le_of_ble_eq_true rfl) (Nat.le_of_ble_eq_true rfl) dX3_init_18 (fun q4 A18 g18 H hq4 hA18 hg18 f4 hW => ?_)
  have ha : a0 = A18 i := ha.trans (hA18 (i) (by omega)).symm
  have hAA : ∀ k, k < i + 1 → A18 k = A k := fun k hk => (hA18 k (by omega)).trans (hAA k hk)
  have hGG : ∀ k, k < i → g18 k = g k := fun k hk => (hg18 k (by omega)).trans (hGG k hk)
  have ho : g18 i = .inr (3, [.ref q1, .null, .int 0]) := (hg18 (i) (by omega)).trans ho
  have hq1 : q1 = A18 (i + 1) := hq1.trans (hA18 (i + 1) (by omega)).symm
  have v1 : BookC E A18 g18 (i + 1) 0 (fun _ => 0) (fun _ => 0) 0 := v1.mv (fun k h1 h2 => hA18 k (by omega)) (fun k h1 h2 => hg18 k (by omega))
  have hW : wH E (wF A (i + 1) sz) A18 (i + 5) s_ g18 H locs := hW
  refine W.widen (k := 4) (n := 30) (Nat.le_of_ble_eq_true rfl) (Nat.le_of_ble_eq_true rfl) ?_
  refine xc_putF X hnm hW (v := .ref q4) ha (by omega) ho rfl w_8 tyX3 tyX3_ok nmX3 1 (by decide) w_10 rfl rfl rfl rfl (by show 1 < 3; decide) dX3_init_21 (fun g21 H locs ho hg21 hW => ?_)
  have ho : g21 i = .inr (3, [.ref q1, .ref q4, .int 0]) := ho
  have hGG : ∀ k, k < i → g21 k = g k := fun k hk => (hg21 k (by omega)).trans (hGG k hk)
  have v1 : BookC E A18 g21 (i + 1) 0 (fun _ => 0) (fun _ => 0) 0 := v1.mv (fun _ _ _ => rfl) (fun k h1 h2 => hg21 k (by omega))
  have f4 : g21 (i + 4) = aR E 2 10 (fun _ => none) := (hg21 (i + 4) (by omega)).trans f4
  have hW : wH E (wF A (i + 1) sz) A18 (i + 5) s_ g21 H locs := hW
  refine lv_aload_n X.1 X.2.1 dX3_init_24 rfl (lv_at hl 0 rfl) ?_
  refine x_iconst X dX3_init_25 ?_
  refine xc_put X hW (v := .int (iI (0))) ha (by omega) ho rfl w_8 tyX3 tyX3_ok nmX3 2 (by decide) w_11 rfl rfl rfl (by show 2 < 3; decide) dX3_init_26 (fun g26 H locs ho hg26 hW => ?_)
  have ho : g26 i = .inr (3, [.ref q1, .ref q4, .int (iI (0))]) := ho
  have hGG : ∀ k, k < i → g26 k = g k := fun k hk => (hg26 k (by omega)).trans (hGG k hk)
  have v1 : BookC E A18 g26 (i + 1) 0 (fun _ => 0) (fun _ => 0) 0 := v1.mv (fun _ _ _ => rfl) (fun k h1 h2 => hg26 k (by omega))
  have f4 : g26 (i + 4) = aR E 2 10 (fun _ => none) := (hg26 (i + 4) (by omega)).trans f4
  have hW : wH E (wF A (i + 1) sz) A18 (i + 5) s_ g26 H locs := hW
  refine x_iconst X dX3_init_29 ?_
  refine lv_istore_n (lv' := [(1, .int (iI (((0 : Nat) : Int)))), (0, .ref a0)]) X.1 X.2.1 dX3_init_30 rfl hl (by decide) rfl (fun ls hl => ?_)
  have loop : ∀ Q : State → Prop, (∀ (g2 : Nat → va_E) (H : Heap) (locs : List Loc) (ls : Array Slot), (∀ k, k ≠ i + 4 → g2 k = g26 k) → (∃ f : Nat → Option Nat, g2 (i + 4) = aR E 2 10 f) → wH E (wF A (i + 1) sz) A18 (i + 5) s_ g2 H locs → W p_ l e_ ({ frames := 2, cells := 4, slots := 30, locals := 60 } : Room) s_ m_ args below meth c_ H locs 4 30 Q (F0 m_ 56 ls [])) → ∀ (d j : Nat) (g1 : Nat → va_E) (H : Heap) (locs : List Loc) (ls : Array Slot), j ≤ 10 → 11 ≤ j + d → (∀ k, k ≠ i + 4 → g1 k = g26 k) → (∃ f : Nat → Option Nat, g1 (i + 4) = aR E 2 10 f) → wH E (wF A (i + 1) sz) A18 (i + 5) s_ g1 H locs → lv_has ls 2 [(1, .int (iI (((j : Nat) : Int)))), (0, .ref a0)] → W p_ l e_ ({ frames := 2, cells := 4, slots := 30, locals := 60 } : Room) s_ m_ args below meth c_ H locs 4 30 Q (F0 m_ 31 ls []) := by
    intro Q kont d
    induction d with
    | zero => intro j g1 H locs ls h1 h2; exact absurd h2 (by omega)
    | succ d ih =>
      intro j g1 H locs ls h1 h2 hg1 harr hW hl
      obtain ⟨f, hf⟩ := harr
      have ho1 : g1 i = .inr (3, [.ref q1, .ref q4, .int (iI (0))]) := (hg1 i (by omega)).trans ho
      refine lv_iload_n X.1 X.2.1 dX3_init_31 rfl (lv_at hl 0 rfl) ?_
      refine lv_aload_n X.1 X.2.1 dX3_init_32 rfl (lv_at hl 1 rfl) ?_
      refine xc_get X hW ha (by omega) ho1 rfl w_8 1 (by decide) w_10 rfl dX3_init_33 ?_
      rw [hq4]
      refine x_alen X hW (by omega) hf rfl dX3_init_36 ?_
      refine x_icmp_ge (tgt := 56) X (by unfold I32; omega) (by unfold I32; omega) dX3_init_37 (by decide) (fun b_ => ?_) (fun b_ => ?_)
      · exact kont g1 H locs ls hg1 ⟨f, hf⟩ hW
      · have hj : j < 10 := by omega
        refine lv_aload_n X.1 X.2.1 dX3_init_40 rfl (lv_at hl 1 rfl) ?_
        refine xc_get X hW ha (by omega) ho1 rfl w_8 1 (by decide) w_10 rfl dX3_init_41 ?_
        refine lv_iload_n X.1 X.2.1 dX3_init_44 rfl (lv_at hl 0 rfl) ?_
        refine lv_aload_n X.1 X.2.1 dX3_init_45 rfl (lv_at hl 1 rfl) ?_
        refine xc_get X hW ha (by omega) ho1 rfl w_8 0 (by decide) w_9 rfl dX3_init_46 ?_
        rw [hq4, hq1]
        refine x_aast X hW (r := (RX0, TX0, 4)) (by omega) hf rfl (by omega) ((hg1 (i + 1) (by omega)).trans v1.1) rfl j rfl hj (by omega) dX3_init_49 (fun g5 H locs e5 hW => ?_)
        refine lv_iinc (v := iI ((((j + 1 : Nat)) : Int))) (lv' := [(1, .int (iI ((((j + 1 : Nat)) : Int)))), (0, .ref a0)]) X.1 X.2.1 dX3_init_50 hl (k := 0) rfl (by rw [show (Int32.ofInt (1)) = iI (1) from rfl, iI_add]; first | rfl | (congr 1; omega)) (by decide) rfl (fun ls hl => ?_)
        refine lv_goto (tgt := 31) X.1 X.2.1 dX3_init_53 (by decide) ?_
        exact ih (j + 1) g5 H locs ls (by omega) (by omega) (fun k hk => by rw [e5, va_up_ne _ _ hk]; exact hg1 k hk) ⟨_, by rw [e5]; exact va_up_self _ _ _⟩ hW hl
  refine loop _ (fun ge H locs ls hge har hW => ?_) 11 0 _ H locs ls (by omega) (by omega) (fun _ _ => rfl) ⟨_, f4⟩ hW hl
  have hGG : ∀ k, k < i → ge k = g k := fun k hk => (hge k (by omega)).trans (hGG k hk)
  have ho : ge i = .inr (3, [.ref q1, .ref q4, .int (iI (0))]) := (hge (i) (by omega)).trans ho
  have v1 : BookC E A18 ge (i + 1) 0 (fun _ => 0) (fun _ => 0) 0 := v1.mv (fun _ _ _ => rfl) (fun k h1 h2 => hge k (by omega))
  refine x_vretC X hr hlk hW (Nat.le_of_ble_eq_true rfl) (Nat.le_of_ble_eq_true rfl) ⟨hAA, hGG, ?_⟩ dX3_init_56
  rw [hq1, hq4] at ho
  exact ⟨ho, har⟩
set_option maxHeartbeats 4000000 in
set_option maxRecDepth 100000 in
theorem c_X1_init (l : Launch) (E : wE) (A : Nat → Nat) (n sz : Nat) (g : Nat → va_E) (i : Nat) (hn : n = i + 1) (hg : g i = .inr (1, [.null, .null, .null, .null, .null, .null, .null, .null])) : Met l yX1_init wsX1_init ({ frames := 3, cells := 18, slots := 106, locals := 100 } : Room) (va_Pc [.ref (A i)] (wPreC E A n sz g)) (va_Qv (fun u : (Nat → Nat) × (Nat → va_E) => (∀ k, k < n → u.1 k = A k) ∧ (∀ k, k < i → u.2 k = g k) ∧ BoxB E u.1 u.2 i) (wAtC E (wF A n sz) (n + 18)) (wF A n sz)) 18 106 (wF A n sz) := by
  subst hn
  refine x_metC (cc := cX1_init) (maxL := 1) (ret := none) [.ref (A i)] (by decide) rfl (Nat.le_of_ble_eq_true rfl) ?_
  intro p_ e_ s_ m_ args below meth c_ ls X hr hlk hnm hsz hW hO hl
  obtain ⟨a0, ha⟩ : ∃ a0, a0 = A i := ⟨_, rfl⟩
  have hl : lv_has ls 1 [(0, .ref a0)] := by rw [ha]; exact hl
  generalize ([] : List Loc) = locs at hW ⊢
  have w_0 : Cond.methodLink RX1 3 objectInit ∈ wsX1_init := by decide +kernel
  have w_1 : Cond.instanceMethod objectInit ∈ wsX1_init := by decide +kernel
  have w_2 : Cond.code objectInit ⟨#[0xb1]⟩ 1 none ∈ wsX1_init := List.mem_of_getElem? (i := 3) rfl
  have w_3 : Cond.classLink RX1 9 RX3 ∈ wsX1_init := by decide +kernel
  have w_4 : Cond.instantiable RX3 3 ∈ wsX1_init := by decide +kernel
  have w_5 : Cond.initialized RX3 ∈ wsX1_init := by decide +kernel
  have w_6 : ∀ w ∈ u_ws RX3 TX3 3, w ∈ wsX1_init := by decide +kernel
  have w_7 : Cond.methodLink RX1 11 yX3_init ∈ wsX1_init := by decide +kernel
  have w_8 : Cond.instanceMethod yX3_init ∈ wsX1_init := by decide +kernel
  have w_9 : ∀ w ∈ u_ws RX1 TX1 8, w ∈ wsX1_init := by decide +kernel
  have w_10 : Cond.fieldLink RX1 12 (TX1 0).1 (TX1 0).2.1 (TX1 0).2.2.1 ∈ wsX1_init := by decide +kernel
  have w_11 : Cond.fieldLink RX1 18 (TX1 1).1 (TX1 1).2.1 (TX1 1).2.2.1 ∈ wsX1_init := by decide +kernel
  have w_12 : Cond.arrayClass .int ∈ wsX1_init := by decide +kernel
  have w_13 : Cond.fieldLink RX1 21 (TX1 2).1 (TX1 2).2.1 (TX1 2).2.2.1 ∈ wsX1_init := by decide +kernel
  have w_14 : Cond.fieldLink RX1 25 (TX1 3).1 (TX1 3).2.1 (TX1 3).2.2.1 ∈ wsX1_init := by decide +kernel
  have w_15 : Cond.fieldLink RX1 28 (TX1 4).1 (TX1 4).2.1 (TX1 4).2.2.1 ∈ wsX1_init := by decide +kernel
  have w_16 : Cond.fieldLink RX1 31 (TX1 5).1 (TX1 5).2.1 (TX1 5).2.2.1 ∈ wsX1_init := by decide +kernel
  have w_17 : Cond.classLink RX1 34 RX5 ∈ wsX1_init := by decide +kernel
  have w_18 : Cond.instantiable RX5 1 ∈ wsX1_init := by decide +kernel
  have w_19 : Cond.initialized RX5 ∈ wsX1_init := by decide +kernel
  have w_20 : ∀ w ∈ u_ws RX5 TX5 1, w ∈ wsX1_init := by decide +kernel
  have w_21 : Cond.instanceMethod yX5_init ∈ wsX1_init := by decide +kernel
  have w_22 : Cond.fieldLink RX1 37 (TX1 6).1 (TX1 6).2.1 (TX1 6).2.2.1 ∈ wsX1_init := by decide +kernel
  have w_23 : Cond.fieldLink RX1 41 (TX1 7).1 (TX1 7).2.1 (TX1 7).2.2.1 ∈ wsX1_init := by decide +kernel
  have hAA : ∀ k, k < i + 1 → A k = A k := fun _ _ => rfl
  have hGG : ∀ k, k < i → g k = g k := fun _ _ => rfl
  have ho : g i = .inr (1, [.null, .null, .null, .null, .null, .null, .null, .null]) := hg
  refine lv_aload_n X.1 X.2.1 dX1_init_0 rfl (lv_at hl 0 rfl) ?_
  refine x_objInit X w_0 w_1 w_2 hl.1 (Nat.le_of_ble_eq_true rfl) (Nat.le_of_ble_eq_true rfl) dX1_init_1 ?_
  refine lv_aload_n X.1 X.2.1 dX1_init_4 rfl (lv_at hl 0 rfl) ?_
  refine x_new X hW (ci := 3) (fs := [.null, .null, .int 0]) rfl w_6 tyX3 tyX3_ok w_3 w_4 w_5 dfX3 (Nat.le_of_ble_eq_true rfl) (Nat.le_of_ble_eq_true rfl) dX1_init_5 (fun q1 A5 g5 H hq1 hA5 hg5 f1 hW => ?_)
  have ha : a0 = A5 i := ha.trans (hA5 (i) (by omega)).symm
  have hAA : ∀ k, k < i + 1 → A5 k = A k := fun k hk => (hA5 k (by omega)).trans (hAA k hk)
  have hGG : ∀ k, k < i → g5 k = g k := fun k hk => (hg5 k (by omega)).trans (hGG k hk)
  have ho : g5 i = .inr (1, [.null, .null, .null, .null, .null, .null, .null, .null]) := (hg5 (i) (by omega)).trans ho
  have hW : wH E (wF A (i + 1) sz) A5 (i + 2) s_ g5 H locs := hW
  refine W.widen (k := 1) (n := 3) (Nat.le_of_ble_eq_true rfl) (Nat.le_of_ble_eq_true rfl) ?_
  refine lv_dup X.1 X.2.1 dX1_init_8 rfl ?_
  refine x_cI X hW hO hq1 (c_X3_init l E A5 (i + 2) H.size g5 (i + 1) rfl f1) gX1_init_X3_init rfl rfl rfl w_5 w_7 w_8 rfl (by decide +kernel) ⟨(Nat.le_of_ble_eq_true rfl), (Nat.le_of_ble_eq_true rfl)⟩ hl.1 (Nat.le_of_ble_eq_true rfl) dX1_init_9 ⟨(Nat.le_of_ble_eq_true rfl), (Nat.le_of_ble_eq_true rfl)⟩ (fun A9 g9 H locs hp9 hW => ?_)
  obtain ⟨hA9, hg9, v1⟩ := hp9
  have ha : a0 = A9 i := ha.trans (hA9 (i) (by omega)).symm
  have hAA : ∀ k, k < i + 1 → A9 k = A k := fun k hk => (hA9 k (by omega)).trans (hAA k hk)
  have hGG : ∀ k, k < i → g9 k = g k := fun k hk => (hg9 k (by omega)).trans (hGG k hk)
  have ho : g9 i = .inr (1, [.null, .null, .null, .null, .null, .null, .null, .null]) := (hg9 (i) (by omega)).trans ho
  have hq1 : q1 = A9 (i + 1) := hq1.trans (hA9 (i + 1) (by omega)).symm
  have hW : wH E (wF A (i + 1) sz) A9 (i + 6) s_ g9 H locs := hW
  refine W.widen (k := 5) (n := 33) (Nat.le_of_ble_eq_true rfl) (Nat.le_of_ble_eq_true rfl) ?_
  refine xc_putF X hnm hW (v := .ref q1) ha (by omega) ho rfl w_9 tyX1 tyX1_ok nmX1 0 (by decide) w_10 rfl rfl rfl rfl (by show 0 < 8; decide) dX1_init_12 (fun g12 H locs ho hg12 hW => ?_)
  have ho : g12 i = .inr (1, [.ref q1, .null, .null, .null, .null, .null, .null, .null]) := ho
  have hGG : ∀ k, k < i → g12 k = g k := fun k hk => (hg12 k (by omega)).trans (hGG k hk)
  have v1 : CrB E A9 g12 (i + 1) := v1.mv (fun _ _ _ => rfl) (fun k h1 h2 => hg12 k (by omega))
  have hW : wH E (wF A (i + 1) sz) A9 (i + 6) s_ g12 H locs := hW
  refine lv_aload_n X.1 X.2.1 dX1_init_15 rfl (lv_at hl 0 rfl) ?_
  refine x_new X hW (ci := 3) (fs := [.null, .null, .int 0]) rfl w_6 tyX3 tyX3_ok w_3 w_4 w_5 dfX3 (Nat.le_of_ble_eq_true rfl) (Nat.le_of_ble_eq_true rfl) dX1_init_16 (fun q6 A16 g16 H hq6 hA16 hg16 f6 hW => ?_)
  have ha : a0 = A16 i := ha.trans (hA16 (i) (by omega)).symm
  have hAA : ∀ k, k < i + 1 → A16 k = A k := fun k hk => (hA16 k (by omega)).trans (hAA k hk)
  have hGG : ∀ k, k < i → g16 k = g k := fun k hk => (hg16 k (by omega)).trans (hGG k hk)
  have ho : g16 i = .inr (1, [.ref q1, .null, .null, .null, .null, .null, .null, .null]) := (hg16 (i) (by omega)).trans ho
  have hq1 : q1 = A16 (i + 1) := hq1.trans (hA16 (i + 1) (by omega)).symm
  have v1 : CrB E A16 g16 (i + 1) := v1.mv (fun k h1 h2 => hA16 k (by omega)) (fun k h1 h2 => hg16 k (by omega))
  have hW : wH E (wF A (i + 1) sz) A16 (i + 7) s_ g16 H locs := hW
  refine W.widen (k := 6) (n := 36) (Nat.le_of_ble_eq_true rfl) (Nat.le_of_ble_eq_true rfl) ?_
  refine lv_dup X.1 X.2.1 dX1_init_19 rfl ?_
  refine x_cI X hW hO hq6 (c_X3_init l E A16 (i + 7) H.size g16 (i + 6) rfl f6) gX1_init_X3_init rfl rfl rfl w_5 w_7 w_8 rfl (by decide +kernel) ⟨(Nat.le_of_ble_eq_true rfl), (Nat.le_of_ble_eq_true rfl)⟩ hl.1 (Nat.le_of_ble_eq_true rfl) dX1_init_20 ⟨(Nat.le_of_ble_eq_true rfl), (Nat.le_of_ble_eq_true rfl)⟩ (fun A20 g20 H locs hp20 hW => ?_)
  obtain ⟨hA20, hg20, v6⟩ := hp20
  have ha : a0 = A20 i := ha.trans (hA20 (i) (by omega)).symm
  have hAA : ∀ k, k < i + 1 → A20 k = A k := fun k hk => (hA20 k (by omega)).trans (hAA k hk)
  have hGG : ∀ k, k < i → g20 k = g k := fun k hk => (hg20 k (by omega)).trans (hGG k hk)
  have ho : g20 i = .inr (1, [.ref q1, .null, .null, .null, .null, .null, .null, .null]) := (hg20 (i) (by omega)).trans ho
  have hq1 : q1 = A20 (i + 1) := hq1.trans (hA20 (i + 1) (by omega)).symm
  have v1 : CrB E A20 g20 (i + 1) := v1.mv (fun k h1 h2 => hA20 k (by omega)) (fun k h1 h2 => hg20 k (by omega))
  have hq6 : q6 = A20 (i + 6) := hq6.trans (hA20 (i + 6) (by omega)).symm
  have hW : wH E (wF A (i + 1) sz) A20 (i + 11) s_ g20 H locs := hW
  refine W.widen (k := 10) (n := 66) (Nat.le_of_ble_eq_true rfl) (Nat.le_of_ble_eq_true rfl) ?_
  refine xc_putF X hnm hW (v := .ref q6) ha (by omega) ho rfl w_9 tyX1 tyX1_ok nmX1 1 (by decide) w_11 rfl rfl rfl rfl (by show 1 < 8; decide) dX1_init_23 (fun g23 H locs ho hg23 hW => ?_)
  have ho : g23 i = .inr (1, [.ref q1, .ref q6, .null, .null, .null, .null, .null, .null]) := ho
  have hGG : ∀ k, k < i → g23 k = g k := fun k hk => (hg23 k (by omega)).trans (hGG k hk)
  have v1 : CrB E A20 g23 (i + 1) := v1.mv (fun _ _ _ => rfl) (fun k h1 h2 => hg23 k (by omega))
  have v6 : CrB E A20 g23 (i + 6) := v6.mv (fun _ _ _ => rfl) (fun k h1 h2 => hg23 k (by omega))
  have hW : wH E (wF A (i + 1) sz) A20 (i + 11) s_ g23 H locs := hW
  refine lv_aload_n X.1 X.2.1 dX1_init_26 rfl (lv_at hl 0 rfl) ?_
  refine x_bipush X (by decide) dX1_init_27 ?_
  refine x_newI X hW w_12 6 (by decide +kernel) (by decide +kernel) (by decide) (Nat.le_of_ble_eq_true rfl) (Nat.le_of_ble_eq_true rfl) dX1_init_29 (fun q11 A29 g29 H hq11 hA29 hg29 f11 hW => ?_)
  have ha : a0 = A29 i := ha.trans (hA29 (i) (by omega)).symm
  have hAA : ∀ k, k < i + 1 → A29 k = A k := fun k hk => (hA29 k (by omega)).trans (hAA k hk)
  have hGG : ∀ k, k < i → g29 k = g k := fun k hk => (hg29 k (by omega)).trans (hGG k hk)
  have ho : g29 i = .inr (1, [.ref q1, .ref q6, .null, .null, .null, .null, .null, .null]) := (hg29 (i) (by omega)).trans ho
  have hq1 : q1 = A29 (i + 1) := hq1.trans (hA29 (i + 1) (by omega)).symm
  have v1 : CrB E A29 g29 (i + 1) := v1.mv (fun k h1 h2 => hA29 k (by omega)) (fun k h1 h2 => hg29 k (by omega))
  have hq6 : q6 = A29 (i + 6) := hq6.trans (hA29 (i + 6) (by omega)).symm
  have v6 : CrB E A29 g29 (i + 6) := v6.mv (fun k h1 h2 => hA29 k (by omega)) (fun k h1 h2 => hg29 k (by omega))
  have hW : wH E (wF A (i + 1) sz) A29 (i + 12) s_ g29 H locs := hW
  refine W.widen (k := 11) (n := 72) (Nat.le_of_ble_eq_true rfl) (Nat.le_of_ble_eq_true rfl) ?_
  refine xc_putF X hnm hW (v := .ref q11) ha (by omega) ho rfl w_9 tyX1 tyX1_ok nmX1 2 (by decide) w_13 rfl rfl rfl rfl (by show 2 < 8; decide) dX1_init_31 (fun g31 H locs ho hg31 hW => ?_)
  have ho : g31 i = .inr (1, [.ref q1, .ref q6, .ref q11, .null, .null, .null, .null, .null]) := ho
  have hGG : ∀ k, k < i → g31 k = g k := fun k hk => (hg31 k (by omega)).trans (hGG k hk)
  have v1 : CrB E A29 g31 (i + 1) := v1.mv (fun _ _ _ => rfl) (fun k h1 h2 => hg31 k (by omega))
  have v6 : CrB E A29 g31 (i + 6) := v6.mv (fun _ _ _ => rfl) (fun k h1 h2 => hg31 k (by omega))
  have f11 : g31 (i + 11) = aI E 6 (fun _ => 0) := (hg31 (i + 11) (by omega)).trans f11
  have hW : wH E (wF A (i + 1) sz) A29 (i + 12) s_ g31 H locs := hW
  refine lv_aload_n X.1 X.2.1 dX1_init_34 rfl (lv_at hl 0 rfl) ?_
  refine x_bipush X (by decide) dX1_init_35 ?_
  refine x_newI X hW w_12 6 (by decide +kernel) (by decide +kernel) (by decide) (Nat.le_of_ble_eq_true rfl) (Nat.le_of_ble_eq_true rfl) dX1_init_37 (fun q12 A37 g37 H hq12 hA37 hg37 f12 hW => ?_)
  have ha : a0 = A37 i := ha.trans (hA37 (i) (by omega)).symm
  have hAA : ∀ k, k < i + 1 → A37 k = A k := fun k hk => (hA37 k (by omega)).trans (hAA k hk)
  have hGG : ∀ k, k < i → g37 k = g k := fun k hk => (hg37 k (by omega)).trans (hGG k hk)
  have ho : g37 i = .inr (1, [.ref q1, .ref q6, .ref q11, .null, .null, .null, .null, .null]) := (hg37 (i) (by omega)).trans ho
  have hq1 : q1 = A37 (i + 1) := hq1.trans (hA37 (i + 1) (by omega)).symm
  have v1 : CrB E A37 g37 (i + 1) := v1.mv (fun k h1 h2 => hA37 k (by omega)) (fun k h1 h2 => hg37 k (by omega))
  have hq6 : q6 = A37 (i + 6) := hq6.trans (hA37 (i + 6) (by omega)).symm
  have v6 : CrB E A37 g37 (i + 6) := v6.mv (fun k h1 h2 => hA37 k (by omega)) (fun k h1 h2 => hg37 k (by omega))
  have hq11 : q11 = A37 (i + 11) := hq11.trans (hA37 (i + 11) (by omega)).symm
  have f11 : g37 (i + 11) = aI E 6 (fun _ => 0) := (hg37 (i + 11) (by omega)).trans f11
  have hW : wH E (wF A (i + 1) sz) A37 (i + 13) s_ g37 H locs := hW
  refine W.widen (k := 12) (n := 78) (Nat.le_of_ble_eq_true rfl) (Nat.le_of_ble_eq_true rfl) ?_
  refine xc_putF X hnm hW (v := .ref q12) ha (by omega) ho rfl w_9 tyX1 tyX1_ok nmX1 3 (by decide) w_14 rfl rfl rfl rfl (by show 3 < 8; decide) dX1_init_39 (fun g39 H locs ho hg39 hW => ?_)
  have ho : g39 i = .inr (1, [.ref q1, .ref q6, .ref q11, .ref q12, .null, .null, .null, .null]) := ho
  have hGG : ∀ k, k < i → g39 k = g k := fun k hk => (hg39 k (by omega)).trans (hGG k hk)
  have v1 : CrB E A37 g39 (i + 1) := v1.mv (fun _ _ _ => rfl) (fun k h1 h2 => hg39 k (by omega))
  have v6 : CrB E A37 g39 (i + 6) := v6.mv (fun _ _ _ => rfl) (fun k h1 h2 => hg39 k (by omega))
  have f11 : g39 (i + 11) = aI E 6 (fun _ => 0) := (hg39 (i + 11) (by omega)).trans f11
  have f12 : g39 (i + 12) = aI E 6 (fun _ => 0) := (hg39 (i + 12) (by omega)).trans f12
  have hW : wH E (wF A (i + 1) sz) A37 (i + 13) s_ g39 H locs := hW
  refine lv_aload_n X.1 X.2.1 dX1_init_42 rfl (lv_at hl 0 rfl) ?_
  refine x_bipush X (by decide) dX1_init_43 ?_
  refine x_newI X hW w_12 6 (by decide +kernel) (by decide +kernel) (by decide) (Nat.le_of_ble_eq_true rfl) (Nat.le_of_ble_eq_true rfl) dX1_init_45 (fun q13 A45 g45 H hq13 hA45 hg45 f13 hW => ?_)
  have ha : a0 = A45 i := ha.trans (hA45 (i) (by omega)).symm
  have hAA : ∀ k, k < i + 1 → A45 k = A k := fun k hk => (hA45 k (by omega)).trans (hAA k hk)
  have hGG : ∀ k, k < i → g45 k = g k := fun k hk => (hg45 k (by omega)).trans (hGG k hk)
  have ho : g45 i = .inr (1, [.ref q1, .ref q6, .ref q11, .ref q12, .null, .null, .null, .null]) := (hg45 (i) (by omega)).trans ho
  have hq1 : q1 = A45 (i + 1) := hq1.trans (hA45 (i + 1) (by omega)).symm
  have v1 : CrB E A45 g45 (i + 1) := v1.mv (fun k h1 h2 => hA45 k (by omega)) (fun k h1 h2 => hg45 k (by omega))
  have hq6 : q6 = A45 (i + 6) := hq6.trans (hA45 (i + 6) (by omega)).symm
  have v6 : CrB E A45 g45 (i + 6) := v6.mv (fun k h1 h2 => hA45 k (by omega)) (fun k h1 h2 => hg45 k (by omega))
  have hq11 : q11 = A45 (i + 11) := hq11.trans (hA45 (i + 11) (by omega)).symm
  have f11 : g45 (i + 11) = aI E 6 (fun _ => 0) := (hg45 (i + 11) (by omega)).trans f11
  have hq12 : q12 = A45 (i + 12) := hq12.trans (hA45 (i + 12) (by omega)).symm
  have f12 : g45 (i + 12) = aI E 6 (fun _ => 0) := (hg45 (i + 12) (by omega)).trans f12
  have hW : wH E (wF A (i + 1) sz) A45 (i + 14) s_ g45 H locs := hW
  refine W.widen (k := 13) (n := 84) (Nat.le_of_ble_eq_true rfl) (Nat.le_of_ble_eq_true rfl) ?_
  refine xc_putF X hnm hW (v := .ref q13) ha (by omega) ho rfl w_9 tyX1 tyX1_ok nmX1 4 (by decide) w_15 rfl rfl rfl rfl (by show 4 < 8; decide) dX1_init_47 (fun g47 H locs ho hg47 hW => ?_)
  have ho : g47 i = .inr (1, [.ref q1, .ref q6, .ref q11, .ref q12, .ref q13, .null, .null, .null]) := ho
  have hGG : ∀ k, k < i → g47 k = g k := fun k hk => (hg47 k (by omega)).trans (hGG k hk)
  have v1 : CrB E A45 g47 (i + 1) := v1.mv (fun _ _ _ => rfl) (fun k h1 h2 => hg47 k (by omega))
  have v6 : CrB E A45 g47 (i + 6) := v6.mv (fun _ _ _ => rfl) (fun k h1 h2 => hg47 k (by omega))
  have f11 : g47 (i + 11) = aI E 6 (fun _ => 0) := (hg47 (i + 11) (by omega)).trans f11
  have f12 : g47 (i + 12) = aI E 6 (fun _ => 0) := (hg47 (i + 12) (by omega)).trans f12
  have f13 : g47 (i + 13) = aI E 6 (fun _ => 0) := (hg47 (i + 13) (by omega)).trans f13
  have hW : wH E (wF A (i + 1) sz) A45 (i + 14) s_ g47 H locs := hW
  refine lv_aload_n X.1 X.2.1 dX1_init_50 rfl (lv_at hl 0 rfl) ?_
  refine x_bipush X (by decide) dX1_init_51 ?_
  refine x_newI X hW w_12 6 (by decide +kernel) (by decide +kernel) (by decide) (Nat.le_of_ble_eq_true rfl) (Nat.le_of_ble_eq_true rfl) dX1_init_53 (fun q14 A53 g53 H hq14 hA53 hg53 f14 hW => ?_)
  have ha : a0 = A53 i := ha.trans (hA53 (i) (by omega)).symm
  have hAA : ∀ k, k < i + 1 → A53 k = A k := fun k hk => (hA53 k (by omega)).trans (hAA k hk)
  have hGG : ∀ k, k < i → g53 k = g k := fun k hk => (hg53 k (by omega)).trans (hGG k hk)
  have ho : g53 i = .inr (1, [.ref q1, .ref q6, .ref q11, .ref q12, .ref q13, .null, .null, .null]) := (hg53 (i) (by omega)).trans ho
  have hq1 : q1 = A53 (i + 1) := hq1.trans (hA53 (i + 1) (by omega)).symm
  have v1 : CrB E A53 g53 (i + 1) := v1.mv (fun k h1 h2 => hA53 k (by omega)) (fun k h1 h2 => hg53 k (by omega))
  have hq6 : q6 = A53 (i + 6) := hq6.trans (hA53 (i + 6) (by omega)).symm
  have v6 : CrB E A53 g53 (i + 6) := v6.mv (fun k h1 h2 => hA53 k (by omega)) (fun k h1 h2 => hg53 k (by omega))
  have hq11 : q11 = A53 (i + 11) := hq11.trans (hA53 (i + 11) (by omega)).symm
  have f11 : g53 (i + 11) = aI E 6 (fun _ => 0) := (hg53 (i + 11) (by omega)).trans f11
  have hq12 : q12 = A53 (i + 12) := hq12.trans (hA53 (i + 12) (by omega)).symm
  have f12 : g53 (i + 12) = aI E 6 (fun _ => 0) := (hg53 (i + 12) (by omega)).trans f12
  have hq13 : q13 = A53 (i + 13) := hq13.trans (hA53 (i + 13) (by omega)).symm
  have f13 : g53 (i + 13) = aI E 6 (fun _ => 0) := (hg53 (i + 13) (by omega)).trans f13
  have hW : wH E (wF A (i + 1) sz) A53 (i + 15) s_ g53 H locs := hW
  refine W.widen (k := 14) (n := 90) (Nat.le_of_ble_eq_true rfl) (Nat.le_of_ble_eq_true rfl) ?_
  refine xc_putF X hnm hW (v := .ref q14) ha (by omega) ho rfl w_9 tyX1 tyX1_ok nmX1 5 (by decide) w_16 rfl rfl rfl rfl (by show 5 < 8; decide) dX1_init_55 (fun g55 H locs ho hg55 hW => ?_)
  have ho : g55 i = .inr (1, [.ref q1, .ref q6, .ref q11, .ref q12, .ref q13, .ref q14, .null, .null]) := ho
  have hGG : ∀ k, k < i → g55 k = g k := fun k hk => (hg55 k (by omega)).trans (hGG k hk)
  have v1 : CrB E A53 g55 (i + 1) := v1.mv (fun _ _ _ => rfl) (fun k h1 h2 => hg55 k (by omega))
  have v6 : CrB E A53 g55 (i + 6) := v6.mv (fun _ _ _ => rfl) (fun k h1 h2 => hg55 k (by omega))
  have f11 : g55 (i + 11) = aI E 6 (fun _ => 0) := (hg55 (i + 11) (by omega)).trans f11
  have f12 : g55 (i + 12) = aI E 6 (fun _ => 0) := (hg55 (i + 12) (by omega)).trans f12
  have f13 : g55 (i + 13) = aI E 6 (fun _ => 0) := (hg55 (i + 13) (by omega)).trans f13
  have f14 : g55 (i + 14) = aI E 6 (fun _ => 0) := (hg55 (i + 14) (by omega)).trans f14
  have hW : wH E (wF A (i + 1) sz) A53 (i + 15) s_ g55 H locs := hW
  refine lv_aload_n X.1 X.2.1 dX1_init_58 rfl (lv_at hl 0 rfl) ?_
  refine x_new X hW (ci := 5) (fs := [.null]) rfl w_20 tyX5 tyX5_ok w_17 w_18 w_19 dfX5 (Nat.le_of_ble_eq_true rfl) (Nat.le_of_ble_eq_true rfl) dX1_init_59 (fun q15 A59 g59 H hq15 hA59 hg59 f15 hW => ?_)
  have ha : a0 = A59 i := ha.trans (hA59 (i) (by omega)).symm
  have hAA : ∀ k, k < i + 1 → A59 k = A k := fun k hk => (hA59 k (by omega)).trans (hAA k hk)
  have hGG : ∀ k, k < i → g59 k = g k := fun k hk => (hg59 k (by omega)).trans (hGG k hk)
  have ho : g59 i = .inr (1, [.ref q1, .ref q6, .ref q11, .ref q12, .ref q13, .ref q14, .null, .null]) := (hg59 (i) (by omega)).trans ho
  have hq1 : q1 = A59 (i + 1) := hq1.trans (hA59 (i + 1) (by omega)).symm
  have v1 : CrB E A59 g59 (i + 1) := v1.mv (fun k h1 h2 => hA59 k (by omega)) (fun k h1 h2 => hg59 k (by omega))
  have hq6 : q6 = A59 (i + 6) := hq6.trans (hA59 (i + 6) (by omega)).symm
  have v6 : CrB E A59 g59 (i + 6) := v6.mv (fun k h1 h2 => hA59 k (by omega)) (fun k h1 h2 => hg59 k (by omega))
  have hq11 : q11 = A59 (i + 11) := hq11.trans (hA59 (i + 11) (by omega)).symm
  have f11 : g59 (i + 11) = aI E 6 (fun _ => 0) := (hg59 (i + 11) (by omega)).trans f11
  have hq12 : q12 = A59 (i + 12) := hq12.trans (hA59 (i + 12) (by omega)).symm
  have f12 : g59 (i + 12) = aI E 6 (fun _ => 0) := (hg59 (i + 12) (by omega)).trans f12
  have hq13 : q13 = A59 (i + 13) := hq13.trans (hA59 (i + 13) (by omega)).symm
  have f13 : g59 (i + 13) = aI E 6 (fun _ => 0) := (hg59 (i + 13) (by omega)).trans f13
  have hq14 : q14 = A59 (i + 14) := hq14.trans (hA59 (i + 14) (by omega)).symm
  have f14 : g59 (i + 14) = aI E 6 (fun _ => 0) := (hg59 (i + 14) (by omega)).trans f14
  have hW : wH E (wF A (i + 1) sz) A59 (i + 16) s_ g59 H locs := hW
  refine W.widen (k := 15) (n := 91) (Nat.le_of_ble_eq_true rfl) (Nat.le_of_ble_eq_true rfl) ?_
  refine lv_dup X.1 X.2.1 dX1_init_62 rfl ?_
  refine x_cIN X hW hO hq15 (c_X5_init l E A59 (i + 16) H.size g59 (i + 15) rfl f15) gX1_init_X5_init_n36 rfl rfl rfl (by decide) w_19 w_21 rfl (by decide +kernel) ⟨(Nat.le_of_ble_eq_true rfl), (Nat.le_of_ble_eq_true rfl)⟩ hl.1 (Nat.le_of_ble_eq_true rfl) dX1_init_63 ⟨(Nat.le_of_ble_eq_true rfl), (Nat.le_of_ble_eq_true rfl)⟩ (fun A63 g63 H locs hp63 hW => ?_)
  obtain ⟨hA63, hg63, v15⟩ := hp63
  have ha : a0 = A63 i := ha.trans (hA63 (i) (by omega)).symm
  have hAA : ∀ k, k < i + 1 → A63 k = A k := fun k hk => (hA63 k (by omega)).trans (hAA k hk)
  have hGG : ∀ k, k < i → g63 k = g k := fun k hk => (hg63 k (by omega)).trans (hGG k hk)
  have ho : g63 i = .inr (1, [.ref q1, .ref q6, .ref q11, .ref q12, .ref q13, .ref q14, .null, .null]) := (hg63 (i) (by omega)).trans ho
  have hq1 : q1 = A63 (i + 1) := hq1.trans (hA63 (i + 1) (by omega)).symm
  have v1 : CrB E A63 g63 (i + 1) := v1.mv (fun k h1 h2 => hA63 k (by omega)) (fun k h1 h2 => hg63 k (by omega))
  have hq6 : q6 = A63 (i + 6) := hq6.trans (hA63 (i + 6) (by omega)).symm
  have v6 : CrB E A63 g63 (i + 6) := v6.mv (fun k h1 h2 => hA63 k (by omega)) (fun k h1 h2 => hg63 k (by omega))
  have hq11 : q11 = A63 (i + 11) := hq11.trans (hA63 (i + 11) (by omega)).symm
  have f11 : g63 (i + 11) = aI E 6 (fun _ => 0) := (hg63 (i + 11) (by omega)).trans f11
  have hq12 : q12 = A63 (i + 12) := hq12.trans (hA63 (i + 12) (by omega)).symm
  have f12 : g63 (i + 12) = aI E 6 (fun _ => 0) := (hg63 (i + 12) (by omega)).trans f12
  have hq13 : q13 = A63 (i + 13) := hq13.trans (hA63 (i + 13) (by omega)).symm
  have f13 : g63 (i + 13) = aI E 6 (fun _ => 0) := (hg63 (i + 13) (by omega)).trans f13
  have hq14 : q14 = A63 (i + 14) := hq14.trans (hA63 (i + 14) (by omega)).symm
  have f14 : g63 (i + 14) = aI E 6 (fun _ => 0) := (hg63 (i + 14) (by omega)).trans f14
  have hq15 : q15 = A63 (i + 15) := hq15.trans (hA63 (i + 15) (by omega)).symm
  have hW : wH E (wF A (i + 1) sz) A63 (i + 17) s_ g63 H locs := hW
  refine W.widen (k := 16) (n := 97) (Nat.le_of_ble_eq_true rfl) (Nat.le_of_ble_eq_true rfl) ?_
  refine xc_putF X hnm hW (v := .ref q15) ha (by omega) ho rfl w_9 tyX1 tyX1_ok nmX1 6 (by decide) w_22 rfl rfl rfl rfl (by show 6 < 8; decide) dX1_init_66 (fun g66 H locs ho hg66 hW => ?_)
  have ho : g66 i = .inr (1, [.ref q1, .ref q6, .ref q11, .ref q12, .ref q13, .ref q14, .ref q15, .null]) := ho
  have hGG : ∀ k, k < i → g66 k = g k := fun k hk => (hg66 k (by omega)).trans (hGG k hk)
  have v1 : CrB E A63 g66 (i + 1) := v1.mv (fun _ _ _ => rfl) (fun k h1 h2 => hg66 k (by omega))
  have v6 : CrB E A63 g66 (i + 6) := v6.mv (fun _ _ _ => rfl) (fun k h1 h2 => hg66 k (by omega))
  have f11 : g66 (i + 11) = aI E 6 (fun _ => 0) := (hg66 (i + 11) (by omega)).trans f11
  have f12 : g66 (i + 12) = aI E 6 (fun _ => 0) := (hg66 (i + 12) (by omega)).trans f12
  have f13 : g66 (i + 13) = aI E 6 (fun _ => 0) := (hg66 (i + 13) (by omega)).trans f13
  have f14 : g66 (i + 14) = aI E 6 (fun _ => 0) := (hg66 (i + 14) (by omega)).trans f14
  have v15 : NatV E A63 g66 (i + 15) 0 := v15.mv (fun _ _ _ => rfl) (fun k h1 h2 => hg66 k (by omega))
  have hW : wH E (wF A (i + 1) sz) A63 (i + 17) s_ g66 H locs := hW
  refine lv_aload_n X.1 X.2.1 dX1_init_69 rfl (lv_at hl 0 rfl) ?_
  refine x_new X hW (ci := 5) (fs := [.null]) rfl w_20 tyX5 tyX5_ok w_17 w_18 w_19 dfX5 (Nat.le_of_ble_eq_true rfl) (Nat.le_of_ble_eq_true rfl) dX1_init_70 (fun q17 A70 g70 H hq17 hA70 hg70 f17 hW => ?_)
  have ha : a0 = A70 i := ha.trans (hA70 (i) (by omega)).symm
  have hAA : ∀ k, k < i + 1 → A70 k = A k := fun k hk => (hA70 k (by omega)).trans (hAA k hk)
  have hGG : ∀ k, k < i → g70 k = g k := fun k hk => (hg70 k (by omega)).trans (hGG k hk)
  have ho : g70 i = .inr (1, [.ref q1, .ref q6, .ref q11, .ref q12, .ref q13, .ref q14, .ref q15, .null]) := (hg70 (i) (by omega)).trans ho
  have hq1 : q1 = A70 (i + 1) := hq1.trans (hA70 (i + 1) (by omega)).symm
  have v1 : CrB E A70 g70 (i + 1) := v1.mv (fun k h1 h2 => hA70 k (by omega)) (fun k h1 h2 => hg70 k (by omega))
  have hq6 : q6 = A70 (i + 6) := hq6.trans (hA70 (i + 6) (by omega)).symm
  have v6 : CrB E A70 g70 (i + 6) := v6.mv (fun k h1 h2 => hA70 k (by omega)) (fun k h1 h2 => hg70 k (by omega))
  have hq11 : q11 = A70 (i + 11) := hq11.trans (hA70 (i + 11) (by omega)).symm
  have f11 : g70 (i + 11) = aI E 6 (fun _ => 0) := (hg70 (i + 11) (by omega)).trans f11
  have hq12 : q12 = A70 (i + 12) := hq12.trans (hA70 (i + 12) (by omega)).symm
  have f12 : g70 (i + 12) = aI E 6 (fun _ => 0) := (hg70 (i + 12) (by omega)).trans f12
  have hq13 : q13 = A70 (i + 13) := hq13.trans (hA70 (i + 13) (by omega)).symm
  have f13 : g70 (i + 13) = aI E 6 (fun _ => 0) := (hg70 (i + 13) (by omega)).trans f13
  have hq14 : q14 = A70 (i + 14) := hq14.trans (hA70 (i + 14) (by omega)).symm
  have f14 : g70 (i + 14) = aI E 6 (fun _ => 0) := (hg70 (i + 14) (by omega)).trans f14
  have hq15 : q15 = A70 (i + 15) := hq15.trans (hA70 (i + 15) (by omega)).symm
  have v15 : NatV E A70 g70 (i + 15) 0 := v15.mv (fun k h1 h2 => hA70 k (by omega)) (fun k h1 h2 => hg70 k (by omega))
  have hW : wH E (wF A (i + 1) sz) A70 (i + 18) s_ g70 H locs := hW
  refine W.widen (k := 17) (n := 98) (Nat.le_of_ble_eq_true rfl) (Nat.le_of_ble_eq_true rfl) ?_
  refine lv_dup X.1 X.2.1 dX1_init_73 rfl ?_
  refine x_cIN X hW hO hq17 (c_X5_init l E A70 (i + 18) H.size g70 (i + 17) rfl f17) gX1_init_X5_init_n36 rfl rfl rfl (by decide) w_19 w_21 rfl (by decide +kernel) ⟨(Nat.le_of_ble_eq_true rfl), (Nat.le_of_ble_eq_true rfl)⟩ hl.1 (Nat.le_of_ble_eq_true rfl) dX1_init_74 ⟨(Nat.le_of_ble_eq_true rfl), (Nat.le_of_ble_eq_true rfl)⟩ (fun A74 g74 H locs hp74 hW => ?_)
  obtain ⟨hA74, hg74, v17⟩ := hp74
  have ha : a0 = A74 i := ha.trans (hA74 (i) (by omega)).symm
  have hAA : ∀ k, k < i + 1 → A74 k = A k := fun k hk => (hA74 k (by omega)).trans (hAA k hk)
  have hGG : ∀ k, k < i → g74 k = g k := fun k hk => (hg74 k (by omega)).trans (hGG k hk)
  have ho : g74 i = .inr (1, [.ref q1, .ref q6, .ref q11, .ref q12, .ref q13, .ref q14, .ref q15, .null]) := (hg74 (i) (by omega)).trans ho
  have hq1 : q1 = A74 (i + 1) := hq1.trans (hA74 (i + 1) (by omega)).symm
  have v1 : CrB E A74 g74 (i + 1) := v1.mv (fun k h1 h2 => hA74 k (by omega)) (fun k h1 h2 => hg74 k (by omega))
  have hq6 : q6 = A74 (i + 6) := hq6.trans (hA74 (i + 6) (by omega)).symm
  have v6 : CrB E A74 g74 (i + 6) := v6.mv (fun k h1 h2 => hA74 k (by omega)) (fun k h1 h2 => hg74 k (by omega))
  have hq11 : q11 = A74 (i + 11) := hq11.trans (hA74 (i + 11) (by omega)).symm
  have f11 : g74 (i + 11) = aI E 6 (fun _ => 0) := (hg74 (i + 11) (by omega)).trans f11
  have hq12 : q12 = A74 (i + 12) := hq12.trans (hA74 (i + 12) (by omega)).symm
  have f12 : g74 (i + 12) = aI E 6 (fun _ => 0) := (hg74 (i + 12) (by omega)).trans f12
  have hq13 : q13 = A74 (i + 13) := hq13.trans (hA74 (i + 13) (by omega)).symm
  have f13 : g74 (i + 13) = aI E 6 (fun _ => 0) := (hg74 (i + 13) (by omega)).trans f13
  have hq14 : q14 = A74 (i + 14) := hq14.trans (hA74 (i + 14) (by omega)).symm
  have f14 : g74 (i + 14) = aI E 6 (fun _ => 0) := (hg74 (i + 14) (by omega)).trans f14
  have hq15 : q15 = A74 (i + 15) := hq15.trans (hA74 (i + 15) (by omega)).symm
  have v15 : NatV E A74 g74 (i + 15) 0 := v15.mv (fun k h1 h2 => hA74 k (by omega)) (fun k h1 h2 => hg74 k (by omega))
  have hq17 : q17 = A74 (i + 17) := hq17.trans (hA74 (i + 17) (by omega)).symm
  have hW : wH E (wF A (i + 1) sz) A74 (i + 19) s_ g74 H locs := hW
  refine W.widen (k := 18) (n := 104) (Nat.le_of_ble_eq_true rfl) (Nat.le_of_ble_eq_true rfl) ?_
  refine xc_putF X hnm hW (v := .ref q17) ha (by omega) ho rfl w_9 tyX1 tyX1_ok nmX1 7 (by decide) w_23 rfl rfl rfl rfl (by show 7 < 8; decide) dX1_init_77 (fun g77 H locs ho hg77 hW => ?_)
  have ho : g77 i = .inr (1, [.ref q1, .ref q6, .ref q11, .ref q12, .ref q13, .ref q14, .ref q15, .ref q17]) := ho
  have hGG : ∀ k, k < i → g77 k = g k := fun k hk => (hg77 k (by omega)).trans (hGG k hk)
  have v1 : CrB E A74 g77 (i + 1) := v1.mv (fun _ _ _ => rfl) (fun k h1 h2 => hg77 k (by omega))
  have v6 : CrB E A74 g77 (i + 6) := v6.mv (fun _ _ _ => rfl) (fun k h1 h2 => hg77 k (by omega))
  have f11 : g77 (i + 11) = aI E 6 (fun _ => 0) := (hg77 (i + 11) (by omega)).trans f11
  have f12 : g77 (i + 12) = aI E 6 (fun _ => 0) := (hg77 (i + 12) (by omega)).trans f12
  have f13 : g77 (i + 13) = aI E 6 (fun _ => 0) := (hg77 (i + 13) (by omega)).trans f13
  have f14 : g77 (i + 14) = aI E 6 (fun _ => 0) := (hg77 (i + 14) (by omega)).trans f14
  have v15 : NatV E A74 g77 (i + 15) 0 := v15.mv (fun _ _ _ => rfl) (fun k h1 h2 => hg77 k (by omega))
  have v17 : NatV E A74 g77 (i + 17) 0 := v17.mv (fun _ _ _ => rfl) (fun k h1 h2 => hg77 k (by omega))
  have hW : wH E (wF A (i + 1) sz) A74 (i + 19) s_ g77 H locs := hW
  refine x_vretC X hr hlk hW (Nat.le_of_ble_eq_true rfl) (Nat.le_of_ble_eq_true rfl) ⟨hAA, hGG, ?_⟩ dX1_init_80
  rw [hq1, hq6, hq11, hq12, hq13, hq14, hq15, hq17] at ho
  exact ⟨ho, v1, v6, ⟨f11, f12, f13, f14⟩, v15, v17⟩
