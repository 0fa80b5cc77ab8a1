/-! ===== views move with a world that grows ===== -/
theorem NatV.mv {E : wE} {A A' : Nat → Nat} {g g' : Nat → va_E} {i : Nat} {v : Nat} (h : NatV E A g i v) (hA : ∀ k, i ≤ k → k ≤ i + 1 → A' k = A k) (hg : ∀ k, i ≤ k → k ≤ i + 1 → g' k = g k) : NatV E A' g' i v := by
  obtain ⟨a, a0, p, c, d⟩ := h
  exact ⟨a, by rw [hg i (by omega) (by omega), a0, hA (i + 1) (by omega) (by omega)], p, (hg _ (by omega) (by omega)).trans c, d⟩
theorem NatX.mv {E : wE} {A A' : Nat → Nat} {g g' : Nat → va_E} {i : Nat}  (h : NatX E A g i ) (hA : ∀ k, i ≤ k → k ≤ i + 1 → A' k = A k) (hg : ∀ k, i ≤ k → k ≤ i + 1 → g' k = g k) : NatX E A' g' i  := by
  obtain ⟨a0, p, c⟩ := h
  exact ⟨by rw [hg i (by omega) (by omega), a0, hA (i + 1) (by omega) (by omega)], p, (hg _ (by omega) (by omega)).trans c⟩
theorem RowV.mv {E : wE} {A A' : Nat → Nat} {g g' : Nat → va_E} {i : Nat} {w ln : Int} {nm : Nat → Int} (h : RowV E A g i w ln nm) (hA : ∀ k, i ≤ k → k ≤ i + 1 → A' k = A k) (hg : ∀ k, i ≤ k → k ≤ i + 1 → g' k = g k) : RowV E A' g' i w ln nm := by
  obtain ⟨a0, b, c, f, d, e⟩ := h
  exact ⟨by rw [hg i (by omega) (by omega), a0, hA (i + 1) (by omega) (by omega)], b, c, f, (hg _ (by omega) (by omega)).trans d, e⟩
theorem BookC.mv {E : wE} {A A' : Nat → Nat} {g g' : Nat → va_E} {i : Nat} {bz : Nat} {wo we : Nat → Nat} {tot : Nat} (h : BookC E A g i bz wo we tot) (hA : ∀ k, i ≤ k → k ≤ i + 2 → A' k = A k) (hg : ∀ k, i ≤ k → k ≤ i + 2 → g' k = g k) : BookC E A' g' i bz wo we tot := by
  obtain ⟨a0, b, f, h, c, d, e⟩ := h
  exact ⟨by rw [hg i (by omega) (by omega), a0, hA (i + 1) (by omega) (by omega), hA (i + 2) (by omega) (by omega)], b, f, h, (hg _ (by omega) (by omega)).trans c, (hg _ (by omega) (by omega)).trans d, e⟩
theorem ResV.mv {E : wE} {A A' : Nat → Nat} {g g' : Nat → va_E} {i : Nat} {t : Int} {b : Nat} (h : ResV E A g i t b) (hA : ∀ k, i ≤ k → k ≤ i + 8 → A' k = A k) (hg : ∀ k, i ≤ k → k ≤ i + 8 → g' k = g k) : ResV E A' g' i t b := by
  obtain ⟨a0, n1, n3, n5, n7, c⟩ := h
  exact ⟨by rw [hg i (by omega) (by omega), a0, hA (i + 1) (by omega) (by omega), hA (i + 3) (by omega) (by omega), hA (i + 5) (by omega) (by omega), hA (i + 7) (by omega) (by omega)], n1.mv (fun k h1 h2 => hA k (by omega) (by omega)) (fun k h1 h2 => hg k (by omega) (by omega)), n3.mv (fun k h1 h2 => hA k (by omega) (by omega)) (fun k h1 h2 => hg k (by omega) (by omega)), n5.mv (fun k h1 h2 => hA k (by omega) (by omega)) (fun k h1 h2 => hg k (by omega) (by omega)), n7.mv (fun k h1 h2 => hA k (by omega) (by omega)) (fun k h1 h2 => hg k (by omega) (by omega)), c⟩
theorem HapV.mv {E : wE} {A A' : Nat → Nat} {g g' : Nat → va_E} {i : Nat} {hz : Nat} {ta tb : Nat → Nat} (h : HapV E A g i hz ta tb) (hA : ∀ k, i ≤ k → k ≤ i + 8 → A' k = A k) (hg : ∀ k, i ≤ k → k ≤ i + 8 → g' k = g k) : HapV E A' g' i hz ta tb := by
  obtain ⟨a0, b, c, ⟨f, h, f1, f2, d⟩, n3, n5, n7⟩ := h
  exact ⟨by rw [hg i (by omega) (by omega), a0, hA (i + 1) (by omega) (by omega), hA (i + 2) (by omega) (by omega), hA (i + 3) (by omega) (by omega), hA (i + 5) (by omega) (by omega), hA (i + 7) (by omega) (by omega)], b, c, ⟨f, h, (hg _ (by omega) (by omega)).trans f1, (hg _ (by omega) (by omega)).trans f2, d⟩, n3.mv (fun k h1 h2 => hA k (by omega) (by omega)) (fun k h1 h2 => hg k (by omega) (by omega)), n5.mv (fun k h1 h2 => hA k (by omega) (by omega)) (fun k h1 h2 => hg k (by omega) (by omega)), n7.mv (fun k h1 h2 => hA k (by omega) (by omega)) (fun k h1 h2 => hg k (by omega) (by omega))⟩
def CrB (E : wE) (A : Nat → Nat) (g : Nat → va_E) (i : Nat) : Prop := g i = .inr (3, [.ref (A (i + 1)), .ref (A (i + 4)), .int 0]) ∧ ∃ f : Nat → Option Nat, g (i + 4) = aR E 2 10 f
theorem CrB.mv {E : wE} {A A' : Nat → Nat} {g g' : Nat → va_E} {i : Nat}  (h : CrB E A g i ) (hA : ∀ k, i ≤ k → k ≤ i + 4 → A' k = A k) (hg : ∀ k, i ≤ k → k ≤ i + 4 → g' k = g k) : CrB E A' g' i  := by
  obtain ⟨a0, f, c⟩ := h
  exact ⟨by rw [hg i (by omega) (by omega), a0, hA (i + 1) (by omega) (by omega), hA (i + 4) (by omega) (by omega)], f, (hg _ (by omega) (by omega)).trans c⟩
theorem CrB.v {E : wE} {A : Nat → Nat} {g : Nat → va_E} {i : Nat} (h : CrB E A g i) (bc : Nat → Nat) : CrowdV E A g i 0 bc := ⟨h.1, by omega, h.2.choose, h.2.choose_spec, fun k hk => absurd hk (by omega)⟩
def BoxB (E : wE) (A : Nat → Nat) (g : Nat → va_E) (i : Nat) : Prop := g i = .inr (1, [.ref (A (i + 1)), .ref (A (i + 6)), .ref (A (i + 11)), .ref (A (i + 12)), .ref (A (i + 13)), .ref (A (i + 14)), .ref (A (i + 15)), .ref (A (i + 17))]) ∧ CrB E A g (i + 1) ∧ CrB E A g (i + 6) ∧ (g (i + 11) = aI E 6 (fun _ => 0) ∧ g (i + 12) = aI E 6 (fun _ => 0) ∧ g (i + 13) = aI E 6 (fun _ => 0) ∧ g (i + 14) = aI E 6 (fun _ => 0)) ∧ NatV E A g (i + 15) 0 ∧ NatV E A g (i + 17) 0
theorem BoxB.mv {E : wE} {A A' : Nat → Nat} {g g' : Nat → va_E} {i : Nat}  (h : BoxB E A g i ) (hA : ∀ k, i ≤ k → k ≤ i + 18 → A' k = A k) (hg : ∀ k, i ≤ k → k ≤ i + 18 → g' k = g k) : BoxB E A' g' i  := by
  obtain ⟨a0, c1, c6, ⟨f1, f2, f3, f4⟩, n1, n2⟩ := h
  exact ⟨by rw [hg i (by omega) (by omega), a0, hA (i + 1) (by omega) (by omega), hA (i + 6) (by omega) (by omega), hA (i + 11) (by omega) (by omega), hA (i + 12) (by omega) (by omega), hA (i + 13) (by omega) (by omega), hA (i + 14) (by omega) (by omega), hA (i + 15) (by omega) (by omega), hA (i + 17) (by omega) (by omega)], c1.mv (fun k h1 h2 => hA k (by omega) (by omega)) (fun k h1 h2 => hg k (by omega) (by omega)), c6.mv (fun k h1 h2 => hA k (by omega) (by omega)) (fun k h1 h2 => hg k (by omega) (by omega)), ⟨(hg _ (by omega) (by omega)).trans f1, (hg _ (by omega) (by omega)).trans f2, (hg _ (by omega) (by omega)).trans f3, (hg _ (by omega) (by omega)).trans f4⟩, n1.mv (fun k h1 h2 => hA k (by omega) (by omega)) (fun k h1 h2 => hg k (by omega) (by omega)), n2.mv (fun k h1 h2 => hA k (by omega) (by omega)) (fun k h1 h2 => hg k (by omega) (by omega))⟩
theorem BoxB.v {E : wE} {A : Nat → Nat} {g : Nat → va_E} {i : Nat} (h : BoxB E A g i) (bc px : Nat → Nat) (P : Nat → Int) (Q od : Nat → Nat) : BoxV E A g i 0 bc px P Q od := by
  obtain ⟨a0, c1, c6, ⟨f1, f2, f3, f4⟩, n1, n2⟩ := h
  exact ⟨a0, c1.v bc, by omega, ⟨0, bc, c6.v bc⟩, ⟨_, _, _, _, f1, f2, f3, f4, fun k hk => absurd hk (by omega)⟩, ⟨fun k hk => absurd hk (by omega), fun a b _ hb => absurd hb (by omega), fun a b _ hb => absurd hb (by omega)⟩, n1.any, n2.any⟩
theorem dfX0 : ∀ j, j < 4 → defaultValue (tyX0 j) = vp_V [.null, .null, .int 0, .int 0] j := by
  intro j hj
  rcases (show j = 0 ∨ j = 1 ∨ j = 2 ∨ j = 3 by omega) with rfl | rfl | rfl | rfl <;> rfl
theorem dfX1 : ∀ j, j < 8 → defaultValue (tyX1 j) = vp_V [.null, .null, .null, .null, .null, .null, .null, .null] j := by
  intro j hj
  rcases (show j = 0 ∨ j = 1 ∨ j = 2 ∨ j = 3 ∨ j = 4 ∨ j = 5 ∨ j = 6 ∨ j = 7 by omega) with rfl | rfl | rfl | rfl | rfl | rfl | rfl | rfl <;> rfl
theorem dfX2 : ∀ j, j < 10 → defaultValue (tyX2 j) = vp_V [.null, .null, .null, .null, .null, .null, .null, .null, .null, .null] j := by
  intro j hj
  rcases (show j = 0 ∨ j = 1 ∨ j = 2 ∨ j = 3 ∨ j = 4 ∨ j = 5 ∨ j = 6 ∨ j = 7 ∨ j = 8 ∨ j = 9 by omega) with rfl | rfl | rfl | rfl | rfl | rfl | rfl | rfl | rfl | rfl <;> rfl
theorem dfX3 : ∀ j, j < 3 → defaultValue (tyX3 j) = vp_V [.null, .null, .int 0] j := by
  intro j hj
  rcases (show j = 0 ∨ j = 1 ∨ j = 2 by omega) with rfl | rfl | rfl <;> rfl
theorem dfX4 : ∀ j, j < 6 → defaultValue (tyX4 j) = vp_V [.null, .null, .int 0, .null, .null, .null] j := by
  intro j hj
  rcases (show j = 0 ∨ j = 1 ∨ j = 2 ∨ j = 3 ∨ j = 4 ∨ j = 5 by omega) with rfl | rfl | rfl | rfl | rfl | rfl <;> rfl
theorem dfX5 : ∀ j, j < 1 → defaultValue (tyX5 j) = vp_V [.null] j := by
  intro j hj
  rcases (show j = 0 by omega) with rfl <;> rfl
theorem dfX6 : ∀ j, j < 5 → defaultValue (tyX6 j) = vp_V [.null, .null, .null, .null, .null] j := by
  intro j hj
  rcases (show j = 0 ∨ j = 1 ∨ j = 2 ∨ j = 3 ∨ j = 4 by omega) with rfl | rfl | rfl | rfl | rfl <;> rfl
theorem dfX7 : ∀ j, j < 4 → defaultValue (tyX7 j) = vp_V [.null, .null, .null, .null] j := by
  intro j hj
  rcases (show j = 0 ∨ j = 1 ∨ j = 2 ∨ j = 3 by omega) with rfl | rfl | rfl | rfl <;> rfl
theorem dfX8 : ∀ j, j < 5 → defaultValue (tyX8 j) = vp_V [.null, .null, .null, .null, .int 0] j := by
  intro j hj
  rcases (show j = 0 ∨ j = 1 ∨ j = 2 ∨ j = 3 ∨ j = 4 by omega) with rfl | rfl | rfl | rfl | rfl <;> rfl
theorem dfX9 : ∀ j, j < 3 → defaultValue (tyX9 j) = vp_V [.null, .int 0, .int 0] j := by
  intro j hj
  rcases (show j = 0 ∨ j = 1 ∨ j = 2 by omega) with rfl | rfl | rfl <;> rfl
theorem dfX10 : ∀ j, j < 9 → defaultValue (tyX10 j) = vp_V [.null, .null, .int 0, .null, .null, .null, .null, .null, .null] j := by
  intro j hj
  rcases (show j = 0 ∨ j = 1 ∨ j = 2 ∨ j = 3 ∨ j = 4 ∨ j = 5 ∨ j = 6 ∨ j = 7 ∨ j = 8 by omega) with rfl | rfl | rfl | rfl | rfl | rfl | rfl | rfl | rfl <;> rfl
theorem dfX11 : ∀ j, j < 21 → defaultValue (tyX11 j) = vp_V [.null, .null, .null, .null, .int 0, .null, .null, .null, .null, .int 0, .null, .null, .null, .int 0, .null, .null, .int 0, .null, .null, .null, .int 0] j := by
  intro j hj
  rcases (show j = 0 ∨ j = 1 ∨ j = 2 ∨ j = 3 ∨ j = 4 ∨ j = 5 ∨ j = 6 ∨ j = 7 ∨ j = 8 ∨ j = 9 ∨ j = 10 ∨ j = 11 ∨ j = 12 ∨ j = 13 ∨ j = 14 ∨ j = 15 ∨ j = 16 ∨ j = 17 ∨ j = 18 ∨ j = 19 ∨ j = 20 by omega) with rfl | rfl | rfl | rfl | rfl | rfl | rfl | rfl | rfl | rfl | rfl | rfl | rfl | rfl | rfl | rfl | rfl | rfl | rfl | rfl | rfl <;> rfl
theorem x_ldcC {p : Program} {l : Launch} {e : Env} {R : Room} {s : State} {m : MethodId} {args : Array Value} {below : List Frame} {meth : Method} {c : Code} {H : Heap} {locs : List Loc} {cells slots : Nat} {Q : State → Prop} {cc : ByteArray} {nL : Nat} {Ts : List Cond} {own : String} {pc : Nat} {ls : Array Slot} {rest : List Value} (X : CallFix p m c cc nL s args Ts own) {index : Nat} {v : Int32} (y : Int) (hv : v = iI y) (hcn : Cond.constant own index v ∈ Ts) (hdg : decode cc pc = .ok (.ldc index, 2)) (k : W p l e R s m args below meth c H locs cells slots Q (F0 m (pc + 2) ls (.int (iI y) :: rest))) : W p l e R s m args below meth c H locs cells slots Q (F0 m pc ls rest) := by
  subst hv
  exact lv_ldc X.1 X.2.1 X.2.2.2.1 (X.2.2.2.2 _ hcn) hdg k
set_option maxHeartbeats 4000000 in
set_option maxRecDepth 100000 in
theorem c_X5_init (l : Launch) (E : wE) (A : Nat → Nat) (n sz : Nat) (g : Nat → va_E) (i : Nat) (hn : n = i + 1) (hg : g i = .inr (5, [.null])) : Met l yX5_init wsX5_init ({ frames := 1, cells := 1, slots := 6, locals := 12 } : Room) (va_Pc [.ref (A i)] (wPreC E A n sz g)) (va_Qv (fun u : (Nat → Nat) × (Nat → va_E) => (∀ k, k < n → u.1 k = A k) ∧ (∀ k, k < i → u.2 k = g k) ∧ NatV E u.1 u.2 i 0) (wAtC E (wF A n sz) (n + 1)) (wF A n sz)) 1 6 (wF A n sz) := by
  subst hn
  refine x_metC (cc := cX5_init) (maxL := 1) (ret := none) [.ref (A i)] (by decide) rfl (Nat.le_of_ble_eq_true rfl) ?_
  intro p_ e_ s_ m_ args below meth c_ ls X hr hlk hnm hsz hW hO hl
  obtain ⟨a0, ha⟩ : ∃ a0, a0 = A i := ⟨_, rfl⟩
  have hl : lv_has ls 1 [(0, .ref a0)] := by rw [ha]; exact hl
  generalize ([] : List Loc) = locs at hW ⊢
  have w_0 : Cond.methodLink RX5 1 objectInit ∈ wsX5_init := by decide +kernel
  have w_1 : Cond.instanceMethod objectInit ∈ wsX5_init := by decide +kernel
  have w_2 : Cond.code objectInit ⟨#[0xb1]⟩ 1 none ∈ wsX5_init := List.mem_of_getElem? (i := 3) rfl
  have w_3 : Cond.arrayClass .int ∈ wsX5_init := by decide +kernel
  have w_4 : ∀ w ∈ u_ws RX5 TX5 1, w ∈ wsX5_init := by decide +kernel
  have w_5 : Cond.fieldLink RX5 9 (TX5 0).1 (TX5 0).2.1 (TX5 0).2.2.1 ∈ wsX5_init := by decide +kernel
  have hAA : ∀ k, k < i + 1 → A k = A k := fun _ _ => rfl
  have hGG : ∀ k, k < i → g k = g k := fun _ _ => rfl
  have ho : g i = .inr (5, [.null]) := hg
  refine lv_aload_n X.1 X.2.1 dX5_init_0 rfl (lv_at hl 0 rfl) ?_
  refine x_objInit X w_0 w_1 w_2 hl.1 (Nat.le_of_ble_eq_true rfl) (Nat.le_of_ble_eq_true rfl) dX5_init_1 ?_
  refine lv_aload_n X.1 X.2.1 dX5_init_4 rfl (lv_at hl 0 rfl) ?_
  refine x_bipush X (by decide) dX5_init_5 ?_
  refine x_newI X hW w_3 6 (by decide +kernel) (by decide +kernel) (by decide) (Nat.le_of_ble_eq_true rfl) (Nat.le_of_ble_eq_true rfl) dX5_init_7 (fun q1 A7 g7 H hq1 hA7 hg7 f1 hW => ?_)
  have ha : a0 = A7 i := ha.trans (hA7 (i) (by omega)).symm
  have hAA : ∀ k, k < i + 1 → A7 k = A k := fun k hk => (hA7 k (by omega)).trans (hAA k hk)
  have hGG : ∀ k, k < i → g7 k = g k := fun k hk => (hg7 k (by omega)).trans (hGG k hk)
  have ho : g7 i = .inr (5, [.null]) := (hg7 (i) (by omega)).trans ho
  have hW : wH E (wF A (i + 1) sz) A7 (i + 2) s_ g7 H locs := hW
  refine W.widen (k := 1) (n := 6) (Nat.le_of_ble_eq_true rfl) (Nat.le_of_ble_eq_true rfl) ?_
  refine xc_putF X hnm hW (v := .ref q1) ha (by omega) ho rfl w_4 tyX5 tyX5_ok nmX5 0 (by decide) w_5 rfl rfl rfl rfl (by show 0 < 1; decide) dX5_init_9 (fun g9 H locs ho hg9 hW => ?_)
  have ho : g9 i = .inr (5, [.ref q1]) := ho
  have hGG : ∀ k, k < i → g9 k = g k := fun k hk => (hg9 k (by omega)).trans (hGG k hk)
  have f1 : g9 (i + 1) = aI E 6 (fun _ => 0) := (hg9 (i + 1) (by omega)).trans f1
  have hW : wH E (wF A (i + 1) sz) A7 (i + 2) s_ g9 H locs := hW
  refine x_vretC X hr hlk hW (Nat.le_of_ble_eq_true rfl) (Nat.le_of_ble_eq_true rfl) ⟨hAA, hGG, ?_⟩ dX5_init_12
  rw [hq1] at ho
  refine ⟨by decide, ho, _, f1, fun k hk => ?_⟩
  show (0 : Int32) = _
  rw [show dg 0 k = 0 by simp [dg]]
  rfl
set_option maxHeartbeats 4000000 in
set_option maxRecDepth 100000 in
theorem c_X9_init (l : Launch) (E : wE) (A : Nat → Nat) (n sz : Nat) (g : Nat → va_E) (i : Nat) (hn : n = i + 1) (hg : g i = .inr (9, [.null, .int 0, .int 0])) : Met l yX9_init wsX9_init ({ frames := 1, cells := 1, slots := 40, locals := 12 } : Room) (va_Pc [.ref (A i)] (wPreC E A n sz g)) (va_Qv (fun u : (Nat → Nat) × (Nat → va_E) => (∀ k, k < n → u.1 k = A k) ∧ (∀ k, k < i → u.2 k = g k) ∧ RowV E u.1 u.2 i 0 (-1) (fun _ => 0)) (wAtC E (wF A n sz) (n + 1)) (wF A n sz)) 1 40 (wF A n sz) := by
  subst hn
  refine x_metC (cc := cX9_init) (maxL := 1) (ret := none) [.ref (A i)] (by decide) rfl (Nat.le_of_ble_eq_true rfl) ?_
  intro p_ e_ s_ m_ args below meth c_ ls X hr hlk hnm hsz hW hO hl
  obtain ⟨a0, ha⟩ : ∃ a0, a0 = A i := ⟨_, rfl⟩
  have hl : lv_has ls 1 [(0, .ref a0)] := by rw [ha]; exact hl
  generalize ([] : List Loc) = locs at hW ⊢
  have w_0 : Cond.methodLink RX9 3 objectInit ∈ wsX9_init := by decide +kernel
  have w_1 : Cond.instanceMethod objectInit ∈ wsX9_init := by decide +kernel
  have w_2 : Cond.code objectInit ⟨#[0xb1]⟩ 1 none ∈ wsX9_init := List.mem_of_getElem? (i := 3) rfl
  have w_3 : Cond.arrayClass .long ∈ wsX9_init := by decide +kernel
  have w_4 : ∀ w ∈ u_ws RX9 TX9 3, w ∈ wsX9_init := by decide +kernel
  have w_5 : Cond.fieldLink RX9 9 (TX9 0).1 (TX9 0).2.1 (TX9 0).2.2.1 ∈ wsX9_init := by decide +kernel
  have w_6 : Cond.fieldLink RX9 15 (TX9 1).1 (TX9 1).2.1 (TX9 1).2.2.1 ∈ wsX9_init := by decide +kernel
  have w_7 : Cond.fieldLink RX9 19 (TX9 2).1 (TX9 2).2.1 (TX9 2).2.2.1 ∈ wsX9_init := by decide +kernel
  have hAA : ∀ k, k < i + 1 → A k = A k := fun _ _ => rfl
  have hGG : ∀ k, k < i → g k = g k := fun _ _ => rfl
  have ho : g i = .inr (9, [.null, .int 0, .int 0]) := hg
  refine lv_aload_n X.1 X.2.1 dX9_init_0 rfl (lv_at hl 0 rfl) ?_
  refine x_objInit X w_0 w_1 w_2 hl.1 (Nat.le_of_ble_eq_true rfl) (Nat.le_of_ble_eq_true rfl) dX9_init_1 ?_
  refine lv_aload_n X.1 X.2.1 dX9_init_4 rfl (lv_at hl 0 rfl) ?_
  refine x_bipush X (by decide) dX9_init_5 ?_
  refine x_newJ X hW w_3 40 (by decide +kernel) (by decide +kernel) (by decide) (Nat.le_of_ble_eq_true rfl) (Nat.le_of_ble_eq_true rfl) dX9_init_7 (fun q1 A7 g7 H hq1 hA7 hg7 f1 hW => ?_)
  have ha : a0 = A7 i := ha.trans (hA7 (i) (by omega)).symm
  have hAA : ∀ k, k < i + 1 → A7 k = A k := fun k hk => (hA7 k (by omega)).trans (hAA k hk)
  have hGG : ∀ k, k < i → g7 k = g k := fun k hk => (hg7 k (by omega)).trans (hGG k hk)
  have ho : g7 i = .inr (9, [.null, .int 0, .int 0]) := (hg7 (i) (by omega)).trans ho
  have hW : wH E (wF A (i + 1) sz) A7 (i + 2) s_ g7 H locs := hW
  refine W.widen (k := 1) (n := 40) (Nat.le_of_ble_eq_true rfl) (Nat.le_of_ble_eq_true rfl) ?_
  refine xc_putF X hnm hW (v := .ref q1) ha (by omega) ho rfl w_4 tyX9 tyX9_ok nmX9 0 (by decide) w_5 rfl rfl rfl rfl (by show 0 < 3; decide) dX9_init_9 (fun g9 H locs ho hg9 hW => ?_)
  have ho : g9 i = .inr (9, [.ref q1, .int 0, .int 0]) := ho
  have hGG : ∀ k, k < i → g9 k = g k := fun k hk => (hg9 k (by omega)).trans (hGG k hk)
  have f1 : g9 (i + 1) = aJ E 40 (fun _ => 0) := (hg9 (i + 1) (by omega)).trans f1
  have hW : wH E (wF A (i + 1) sz) A7 (i + 2) s_ g9 H locs := hW
  refine lv_aload_n X.1 X.2.1 dX9_init_12 rfl (lv_at hl 0 rfl) ?_
  refine x_iconst X dX9_init_13 ?_
  refine xc_put X hW (v := .int (iI (0))) ha (by omega) ho rfl w_4 tyX9 tyX9_ok nmX9 1 (by decide) w_6 rfl rfl rfl (by show 1 < 3; decide) dX9_init_14 (fun g14 H locs ho hg14 hW => ?_)
  have ho : g14 i = .inr (9, [.ref q1, .int (iI (0)), .int 0]) := ho
  have hGG : ∀ k, k < i → g14 k = g k := fun k hk => (hg14 k (by omega)).trans (hGG k hk)
  have f1 : g14 (i + 1) = aJ E 40 (fun _ => 0) := (hg14 (i + 1) (by omega)).trans f1
  have hW : wH E (wF A (i + 1) sz) A7 (i + 2) s_ g14 H locs := hW
  refine lv_aload_n X.1 X.2.1 dX9_init_17 rfl (lv_at hl 0 rfl) ?_
  refine x_iconst X dX9_init_18 ?_
  refine xc_put X hW (v := .int (iI (-1))) ha (by omega) ho rfl w_4 tyX9 tyX9_ok nmX9 2 (by decide) w_7 rfl rfl rfl (by show 2 < 3; decide) dX9_init_19 (fun g19 H locs ho hg19 hW => ?_)
  have ho : g19 i = .inr (9, [.ref q1, .int (iI (0)), .int (iI (-1))]) := ho
  have hGG : ∀ k, k < i → g19 k = g k := fun k hk => (hg19 k (by omega)).trans (hGG k hk)
  have f1 : g19 (i + 1) = aJ E 40 (fun _ => 0) := (hg19 (i + 1) (by omega)).trans f1
  have hW : wH E (wF A (i + 1) sz) A7 (i + 2) s_ g19 H locs := hW
  refine x_vretC X hr hlk hW (Nat.le_of_ble_eq_true rfl) (Nat.le_of_ble_eq_true rfl) ⟨hAA, hGG, ?_⟩ dX9_init_22
  rw [hq1] at ho
  exact ⟨ho, by omega, by omega, _, f1, fun k hk => ⟨by show I64 0; unfold I64; omega, rfl⟩⟩
set_option maxHeartbeats 4000000 in
set_option maxRecDepth 100000 in
theorem c_X0_init (l : Launch) (E : wE) (A : Nat → Nat) (n sz : Nat) (g : Nat → va_E) (i : Nat) (hn : n = i + 1) (hg : g i = .inr (0, [.null, .null, .int 0, .int 0])) : Met l yX0_init wsX0_init ({ frames := 1, cells := 2, slots := 16, locals := 12 } : Room) (va_Pc [.ref (A i)] (wPreC E A n sz g)) (va_Qv (fun u : (Nat → Nat) × (Nat → va_E) => (∀ k, k < n → u.1 k = A k) ∧ (∀ k, k < i → u.2 k = g k) ∧ BookC E u.1 u.2 i 0 (fun _ => 0) (fun _ => 0) 0) (wAtC E (wF A n sz) (n + 2)) (wF A n sz)) 2 16 (wF A n sz) := by
  subst hn
  refine x_metC (cc := cX0_init) (maxL := 1) (ret := none) [.ref (A i)] (by decide) rfl (Nat.le_of_ble_eq_true rfl) ?_
  intro p_ e_ s_ m_ args below meth c_ ls X hr hlk hnm hsz hW hO hl
  obtain ⟨a0, ha⟩ : ∃ a0, a0 = A i := ⟨_, rfl⟩
  have hl : lv_has ls 1 [(0, .ref a0)] := by rw [ha]; exact hl
  generalize ([] : List Loc) = locs at hW ⊢
  have w_0 : Cond.methodLink RX0 3 objectInit ∈ wsX0_init := by decide +kernel
  have w_1 : Cond.instanceMethod objectInit ∈ wsX0_init := by decide +kernel
  have w_2 : Cond.code objectInit ⟨#[0xb1]⟩ 1 none ∈ wsX0_init := List.mem_of_getElem? (i := 3) rfl
  have w_3 : Cond.arrayClass .int ∈ wsX0_init := by decide +kernel
  have w_4 : ∀ w ∈ u_ws RX0 TX0 4, w ∈ wsX0_init := by decide +kernel
  have w_5 : Cond.fieldLink RX0 9 (TX0 0).1 (TX0 0).2.1 (TX0 0).2.2.1 ∈ wsX0_init := by decide +kernel
  have w_6 : Cond.fieldLink RX0 15 (TX0 1).1 (TX0 1).2.1 (TX0 1).2.2.1 ∈ wsX0_init := by decide +kernel
  have w_7 : Cond.fieldLink RX0 18 (TX0 2).1 (TX0 2).2.1 (TX0 2).2.2.1 ∈ wsX0_init := by decide +kernel
  have w_8 : Cond.fieldLink RX0 22 (TX0 3).1 (TX0 3).2.1 (TX0 3).2.2.1 ∈ wsX0_init := by decide +kernel
  have hAA : ∀ k, k < i + 1 → A k = A k := fun _ _ => rfl
  have hGG : ∀ k, k < i → g k = g k := fun _ _ => rfl
  have ho : g i = .inr (0, [.null, .null, .int 0, .int 0]) := hg
  refine lv_aload_n X.1 X.2.1 dX0_init_0 rfl (lv_at hl 0 rfl) ?_
  refine x_objInit X w_0 w_1 w_2 hl.1 (Nat.le_of_ble_eq_true rfl) (Nat.le_of_ble_eq_true rfl) dX0_init_1 ?_
  refine lv_aload_n X.1 X.2.1 dX0_init_4 rfl (lv_at hl 0 rfl) ?_
  refine x_bipush X (by decide) dX0_init_5 ?_
  refine x_newI X hW w_3 8 (by decide +kernel) (by decide +kernel) (by decide) (Nat.le_of_ble_eq_true rfl) (Nat.le_of_ble_eq_true rfl) dX0_init_7 (fun q1 A7 g7 H hq1 hA7 hg7 f1 hW => ?_)
  have ha : a0 = A7 i := ha.trans (hA7 (i) (by omega)).symm
  have hAA : ∀ k, k < i + 1 → A7 k = A k := fun k hk => (hA7 k (by omega)).trans (hAA k hk)
  have hGG : ∀ k, k < i → g7 k = g k := fun k hk => (hg7 k (by omega)).trans (hGG k hk)
  have ho : g7 i = .inr (0, [.null, .null, .int 0, .int 0]) := (hg7 (i) (by omega)).trans ho
  have hW : wH E (wF A (i + 1) sz) A7 (i + 2) s_ g7 H locs := hW
  refine W.widen (k := 1) (n := 8) (Nat.le_of_ble_eq_true rfl) (Nat.le_of_ble_eq_true rfl) ?_
  refine xc_putF X hnm hW (v := .ref q1) ha (by omega) ho rfl w_4 tyX0 tyX0_ok nmX0 0 (by decide) w_5 rfl rfl rfl rfl (by show 0 < 4; decide) dX0_init_9 (fun g9 H locs ho hg9 hW => ?_)
  have ho : g9 i = .inr (0, [.ref q1, .null, .int 0, .int 0]) := ho
  have hGG : ∀ k, k < i → g9 k = g k := fun k hk => (hg9 k (by omega)).trans (hGG k hk)
  have f1 : g9 (i + 1) = aI E 8 (fun _ => 0) := (hg9 (i + 1) (by omega)).trans f1
  have hW : wH E (wF A (i + 1) sz) A7 (i + 2) s_ g9 H locs := hW
  refine lv_aload_n X.1 X.2.1 dX0_init_12 rfl (lv_at hl 0 rfl) ?_
  refine x_bipush X (by decide) dX0_init_13 ?_
  refine x_newI X hW w_3 8 (by decide +kernel) (by decide +kernel) (by decide) (Nat.le_of_ble_eq_true rfl) (Nat.le_of_ble_eq_true rfl) dX0_init_15 (fun q2 A15 g15 H hq2 hA15 hg15 f2 hW => ?_)
  have ha : a0 = A15 i := ha.trans (hA15 (i) (by omega)).symm
  have hAA : ∀ k, k < i + 1 → A15 k = A k := fun k hk => (hA15 k (by omega)).trans (hAA k hk)
  have hGG : ∀ k, k < i → g15 k = g k := fun k hk => (hg15 k (by omega)).trans (hGG k hk)
  have ho : g15 i = .inr (0, [.ref q1, .null, .int 0, .int 0]) := (hg15 (i) (by omega)).trans ho
  have hq1 : q1 = A15 (i + 1) := hq1.trans (hA15 (i + 1) (by omega)).symm
  have f1 : g15 (i + 1) = aI E 8 (fun _ => 0) := (hg15 (i + 1) (by omega)).trans f1
  have hW : wH E (wF A (i + 1) sz) A15 (i + 3) s_ g15 H locs := hW
  refine W.widen (k := 2) (n := 16) (Nat.le_of_ble_eq_true rfl) (Nat.le_of_ble_eq_true rfl) ?_
  refine xc_putF X hnm hW (v := .ref q2) ha (by omega) ho rfl w_4 tyX0 tyX0_ok nmX0 1 (by decide) w_6 rfl rfl rfl rfl (by show 1 < 4; decide) dX0_init_17 (fun g17 H locs ho hg17 hW => ?_)
  have ho : g17 i = .inr (0, [.ref q1, .ref q2, .int 0, .int 0]) := ho
  have hGG : ∀ k, k < i → g17 k = g k := fun k hk => (hg17 k (by omega)).trans (hGG k hk)
  have f1 : g17 (i + 1) = aI E 8 (fun _ => 0) := (hg17 (i + 1) (by omega)).trans f1
  have f2 : g17 (i + 2) = aI E 8 (fun _ => 0) := (hg17 (i + 2) (by omega)).trans f2
  have hW : wH E (wF A (i + 1) sz) A15 (i + 3) s_ g17 H locs := hW
  refine lv_aload_n X.1 X.2.1 dX0_init_20 rfl (lv_at hl 0 rfl) ?_
  refine x_iconst X dX0_init_21 ?_
  refine xc_put X hW (v := .int (iI (0))) ha (by omega) ho rfl w_4 tyX0 tyX0_ok nmX0 2 (by decide) w_7 rfl rfl rfl (by show 2 < 4; decide) dX0_init_22 (fun g22 H locs ho hg22 hW => ?_)
  have ho : g22 i = .inr (0, [.ref q1, .ref q2, .int (iI (0)), .int 0]) := ho
  have hGG : ∀ k, k < i → g22 k = g k := fun k hk => (hg22 k (by omega)).trans (hGG k hk)
  have f1 : g22 (i + 1) = aI E 8 (fun _ => 0) := (hg22 (i + 1) (by omega)).trans f1
  have f2 : g22 (i + 2) = aI E 8 (fun _ => 0) := (hg22 (i + 2) (by omega)).trans f2
  have hW : wH E (wF A (i + 1) sz) A15 (i + 3) s_ g22 H locs := hW
  refine lv_aload_n X.1 X.2.1 dX0_init_25 rfl (lv_at hl 0 rfl) ?_
  refine x_iconst X dX0_init_26 ?_
  refine xc_put X hW (v := .int (iI (0))) ha (by omega) ho rfl w_4 tyX0 tyX0_ok nmX0 3 (by decide) w_8 rfl rfl rfl (by show 3 < 4; decide) dX0_init_27 (fun g27 H locs ho hg27 hW => ?_)
  have ho : g27 i = .inr (0, [.ref q1, .ref q2, .int (iI (0)), .int (iI (0))]) := ho
  have hGG : ∀ k, k < i → g27 k = g k := fun k hk => (hg27 k (by omega)).trans (hGG k hk)
  have f1 : g27 (i + 1) = aI E 8 (fun _ => 0) := (hg27 (i + 1) (by omega)).trans f1
  have f2 : g27 (i + 2) = aI E 8 (fun _ => 0) := (hg27 (i + 2) (by omega)).trans f2
  have hW : wH E (wF A (i + 1) sz) A15 (i + 3) s_ g27 H locs := hW
  refine x_vretC X hr hlk hW (Nat.le_of_ble_eq_true rfl) (Nat.le_of_ble_eq_true rfl) ⟨hAA, hGG, ?_⟩ dX0_init_30
  rw [hq1, hq2] at ho
  exact ⟨ho, by omega, _, _, f1, f2, fun k hk => absurd hk (by omega)⟩
set_option maxHeartbeats 4000000 in
set_option maxRecDepth 100000 in
theorem c_X4_init (l : Launch) (E : wE) (A : Nat → Nat) (n sz : Nat) (g : Nat → va_E) (i : Nat) (hn : n = i + 1) (hg : g i = .inr (4, [.null, .null, .int 0, .null, .null, .null])) : Met l yX4_init wsX4_init ({ frames := 2, cells := 8, slots := 61, locals := 60 } : Room) (va_Pc [.ref (A i)] (wPreC E A n sz g)) (va_Qv (fun u : (Nat → Nat) × (Nat → va_E) => (∀ k, k < n → u.1 k = A k) ∧ (∀ k, k < i → u.2 k = g k) ∧ HapV E u.1 u.2 i 0 (fun _ => 0) (fun _ => 0)) (wAtC E (wF A n sz) (n + 8)) (wF A n sz)) 8 61 (wF A n sz) := by
  subst hn
  refine x_metC (cc := cX4_init) (maxL := 1) (ret := none) [.ref (A i)] (by decide) rfl (Nat.le_of_ble_eq_true rfl) ?_
  intro p_ e_ s_ m_ args below meth c_ ls X hr hlk hnm hsz hW hO hl
  obtain ⟨a0, ha⟩ : ∃ a0, a0 = A i := ⟨_, rfl⟩
  have hl : lv_has ls 1 [(0, .ref a0)] := by rw [ha]; exact hl
  generalize ([] : List Loc) = locs at hW ⊢
  have w_0 : Cond.methodLink RX4 3 objectInit ∈ wsX4_init := by decide +kernel
  have w_1 : Cond.instanceMethod objectInit ∈ wsX4_init := by decide +kernel
  have w_2 : Cond.code objectInit ⟨#[0xb1]⟩ 1 none ∈ wsX4_init := List.mem_of_getElem? (i := 3) rfl
  have w_3 : Cond.arrayClass .int ∈ wsX4_init := by decide +kernel
  have w_4 : ∀ w ∈ u_ws RX4 TX4 6, w ∈ wsX4_init := by decide +kernel
  have w_5 : Cond.fieldLink RX4 9 (TX4 0).1 (TX4 0).2.1 (TX4 0).2.2.1 ∈ wsX4_init := by decide +kernel
  have w_6 : Cond.fieldLink RX4 15 (TX4 1).1 (TX4 1).2.1 (TX4 1).2.2.1 ∈ wsX4_init := by decide +kernel
  have w_7 : Cond.fieldLink RX4 18 (TX4 2).1 (TX4 2).2.1 (TX4 2).2.2.1 ∈ wsX4_init := by decide +kernel
  have w_8 : Cond.classLink RX4 22 RX5 ∈ wsX4_init := by decide +kernel
  have w_9 : Cond.instantiable RX5 1 ∈ wsX4_init := by decide +kernel
  have w_10 : Cond.initialized RX5 ∈ wsX4_init := by decide +kernel
  have w_11 : ∀ w ∈ u_ws RX5 TX5 1, w ∈ wsX4_init := by decide +kernel
  have w_12 : Cond.instanceMethod yX5_init ∈ wsX4_init := by decide +kernel
  have w_13 : Cond.fieldLink RX4 25 (TX4 3).1 (TX4 3).2.1 (TX4 3).2.2.1 ∈ wsX4_init := by decide +kernel
  have w_14 : Cond.fieldLink RX4 29 (TX4 4).1 (TX4 4).2.1 (TX4 4).2.2.1 ∈ wsX4_init := by decide +kernel
  have w_15 : Cond.fieldLink RX4 32 (TX4 5).1 (TX4 5).2.1 (TX4 5).2.2.1 ∈ wsX4_init := by decide +kernel
  have hAA : ∀ k, k < i + 1 → A k = A k := fun _ _ => rfl
  have hGG : ∀ k, k < i → g k = g k := fun _ _ => rfl
  have ho : g i = .inr (4, [.null, .null, .int 0, .null, .null, .null]) := hg
  refine lv_aload_n X.1 X.2.1 dX4_init_0 rfl (lv_at hl 0 rfl) ?_
  refine x_objInit X w_0 w_1 w_2 hl.1 (Nat.le_of_ble_eq_true rfl) (Nat.le_of_ble_eq_true rfl) dX4_init_1 ?_
  refine lv_aload_n X.1 X.2.1 dX4_init_4 rfl (lv_at hl 0 rfl) ?_
  refine x_bipush X (by decide) dX4_init_5 ?_
  refine x_newI X hW w_3 20 (by decide +kernel) (by decide +kernel) (by decide) (Nat.le_of_ble_eq_true rfl) (Nat.le_of_ble_eq_true rfl) dX4_init_7 (fun q1 A7 g7 H hq1 hA7 hg7 f1 hW => ?_)
  have ha : a0 = A7 i := ha.trans (hA7 (i) (by omega)).symm
  have hAA : ∀ k, k < i + 1 → A7 k = A k := fun k hk => (hA7 k (by omega)).trans (hAA k hk)
  have hGG : ∀ k, k < i → g7 k = g k := fun k hk => (hg7 k (by omega)).trans (hGG k hk)
  have ho : g7 i = .inr (4, [.null, .null, .int 0, .null, .null, .null]) := (hg7 (i) (by omega)).trans ho
  have hW : wH E (wF A (i + 1) sz) A7 (i + 2) s_ g7 H locs := hW
  refine W.widen (k := 1) (n := 20) (Nat.le_of_ble_eq_true rfl) (Nat.le_of_ble_eq_true rfl) ?_
  refine xc_putF X hnm hW (v := .ref q1) ha (by omega) ho rfl w_4 tyX4 tyX4_ok nmX4 0 (by decide) w_5 rfl rfl rfl rfl (by show 0 < 6; decide) dX4_init_9 (fun g9 H locs ho hg9 hW => ?_)
  have ho : g9 i = .inr (4, [.ref q1, .null, .int 0, .null, .null, .null]) := ho
  have hGG : ∀ k, k < i → g9 k = g k := fun k hk => (hg9 k (by omega)).trans (hGG k hk)
  have f1 : g9 (i + 1) = aI E 20 (fun _ => 0) := (hg9 (i + 1) (by omega)).trans f1
  have hW : wH E (wF A (i + 1) sz) A7 (i + 2) s_ g9 H locs := hW
  refine lv_aload_n X.1 X.2.1 dX4_init_12 rfl (lv_at hl 0 rfl) ?_
  refine x_bipush X (by decide) dX4_init_13 ?_
  refine x_newI X hW w_3 20 (by decide +kernel) (by decide +kernel) (by decide) (Nat.le_of_ble_eq_true rfl) (Nat.le_of_ble_eq_true rfl) dX4_init_15 (fun q2 A15 g15 H hq2 hA15 hg15 f2 hW => ?_)
  have ha : a0 = A15 i := ha.trans (hA15 (i) (by omega)).symm
  have hAA : ∀ k, k < i + 1 → A15 k = A k := fun k hk => (hA15 k (by omega)).trans (hAA k hk)
  have hGG : ∀ k, k < i → g15 k = g k := fun k hk => (hg15 k (by omega)).trans (hGG k hk)
  have ho : g15 i = .inr (4, [.ref q1, .null, .int 0, .null, .null, .null]) := (hg15 (i) (by omega)).trans ho
  have hq1 : q1 = A15 (i + 1) := hq1.trans (hA15 (i + 1) (by omega)).symm
  have f1 : g15 (i + 1) = aI E 20 (fun _ => 0) := (hg15 (i + 1) (by omega)).trans f1
  have hW : wH E (wF A (i + 1) sz) A15 (i + 3) s_ g15 H locs := hW
  refine W.widen (k := 2) (n := 40) (Nat.le_of_ble_eq_true rfl) (Nat.le_of_ble_eq_true rfl) ?_
  refine xc_putF X hnm hW (v := .ref q2) ha (by omega) ho rfl w_4 tyX4 tyX4_ok nmX4 1 (by decide) w_6 rfl rfl rfl rfl (by show 1 < 6; decide) dX4_init_17 (fun g17 H locs ho hg17 hW => ?_)
  have ho : g17 i = .inr (4, [.ref q1, .ref q2, .int 0, .null, .null, .null]) := ho
  have hGG : ∀ k, k < i → g17 k = g k := fun k hk => (hg17 k (by omega)).trans (hGG k hk)
  have f1 : g17 (i + 1) = aI E 20 (fun _ => 0) := (hg17 (i + 1) (by omega)).trans f1
  have f2 : g17 (i + 2) = aI E 20 (fun _ => 0) := (hg17 (i + 2) (by omega)).trans f2
  have hW : wH E (wF A (i + 1) sz) A15 (i + 3) s_ g17 H locs := hW
  refine lv_aload_n X.1 X.2.1 dX4_init_20 rfl (lv_at hl 0 rfl) ?_
  refine x_iconst X dX4_init_21 ?_
  refine xc_put X hW (v := .int (iI (0))) ha (by omega) ho rfl w_4 tyX4 tyX4_ok nmX4 2 (by decide) w_7 rfl rfl rfl (by show 2 < 6; decide) dX4_init_22 (fun g22 H locs ho hg22 hW => ?_)
  have ho : g22 i = .inr (4, [.ref q1, .ref q2, .int (iI (0)), .null, .null, .null]) := ho
  have hGG : ∀ k, k < i → g22 k = g k := fun k hk => (hg22 k (by omega)).trans (hGG k hk)
  have f1 : g22 (i + 1) = aI E 20 (fun _ => 0) := (hg22 (i + 1) (by omega)).trans f1
  have f2 : g22 (i + 2) = aI E 20 (fun _ => 0) := (hg22 (i + 2) (by omega)).trans f2
  have hW : wH E (wF A (i + 1) sz) A15 (i + 3) s_ g22 H locs := hW
  refine lv_aload_n X.1 X.2.1 dX4_init_25 rfl (lv_at hl 0 rfl) ?_
  refine x_new X hW (ci := 5) (fs := [.null]) rfl w_11 tyX5 tyX5_ok w_8 w_9 w_10 dfX5 (Nat.le_of_ble_eq_true rfl) (Nat.le_of_ble_eq_true rfl) dX4_init_26 (fun q3 A26 g26 H hq3 hA26 hg26 f3 hW => ?_)
  have ha : a0 = A26 i := ha.trans (hA26 (i) (by omega)).symm
  have hAA : ∀ k, k < i + 1 → A26 k = A k := fun k hk => (hA26 k (by omega)).trans (hAA k hk)
  have hGG : ∀ k, k < i → g26 k = g k := fun k hk => (hg26 k (by omega)).trans (hGG k hk)
  have ho : g26 i = .inr (4, [.ref q1, .ref q2, .int (iI (0)), .null, .null, .null]) := (hg26 (i) (by omega)).trans ho
  have hq1 : q1 = A26 (i + 1) := hq1.trans (hA26 (i + 1) (by omega)).symm
  have f1 : g26 (i + 1) = aI E 20 (fun _ => 0) := (hg26 (i + 1) (by omega)).trans f1
  have hq2 : q2 = A26 (i + 2) := hq2.trans (hA26 (i + 2) (by omega)).symm
  have f2 : g26 (i + 2) = aI E 20 (fun _ => 0) := (hg26 (i + 2) (by omega)).trans f2
  have hW : wH E (wF A (i + 1) sz) A26 (i + 4) s_ g26 H locs := hW
  refine W.widen (k := 3) (n := 41) (Nat.le_of_ble_eq_true rfl) (Nat.le_of_ble_eq_true rfl) ?_
  refine lv_dup X.1 X.2.1 dX4_init_29 rfl ?_
  refine x_cIN X hW hO hq3 (c_X5_init l E A26 (i + 4) H.size g26 (i + 3) rfl f3) gX4_init_X5_init_n24 rfl rfl rfl (by decide) w_10 w_12 rfl (by decide +kernel) ⟨(Nat.le_of_ble_eq_true rfl), (Nat.le_of_ble_eq_true rfl)⟩ hl.1 (Nat.le_of_ble_eq_true rfl) dX4_init_30 ⟨(Nat.le_of_ble_eq_true rfl), (Nat.le_of_ble_eq_true rfl)⟩ (fun A30 g30 H locs hp30 hW => ?_)
  obtain ⟨hA30, hg30, v3⟩ := hp30
  have ha : a0 = A30 i := ha.trans (hA30 (i) (by omega)).symm
  have hAA : ∀ k, k < i + 1 → A30 k = A k := fun k hk => (hA30 k (by omega)).trans (hAA k hk)
  have hGG : ∀ k, k < i → g30 k = g k := fun k hk => (hg30 k (by omega)).trans (hGG k hk)
  have ho : g30 i = .inr (4, [.ref q1, .ref q2, .int (iI (0)), .null, .null, .null]) := (hg30 (i) (by omega)).trans ho
  have hq1 : q1 = A30 (i + 1) := hq1.trans (hA30 (i + 1) (by omega)).symm
  have f1 : g30 (i + 1) = aI E 20 (fun _ => 0) := (hg30 (i + 1) (by omega)).trans f1
  have hq2 : q2 = A30 (i + 2) := hq2.trans (hA30 (i + 2) (by omega)).symm
  have f2 : g30 (i + 2) = aI E 20 (fun _ => 0) := (hg30 (i + 2) (by omega)).trans f2
  have hq3 : q3 = A30 (i + 3) := hq3.trans (hA30 (i + 3) (by omega)).symm
  have hW : wH E (wF A (i + 1) sz) A30 (i + 5) s_ g30 H locs := hW
  refine W.widen (k := 4) (n := 47) (Nat.le_of_ble_eq_true rfl) (Nat.le_of_ble_eq_true rfl) ?_
  refine xc_putF X hnm hW (v := .ref q3) ha (by omega) ho rfl w_4 tyX4 tyX4_ok nmX4 3 (by decide) w_13 rfl rfl rfl rfl (by show 3 < 6; decide) dX4_init_33 (fun g33 H locs ho hg33 hW => ?_)
  have ho : g33 i = .inr (4, [.ref q1, .ref q2, .int (iI (0)), .ref q3, .null, .null]) := ho
  have hGG : ∀ k, k < i → g33 k = g k := fun k hk => (hg33 k (by omega)).trans (hGG k hk)
  have f1 : g33 (i + 1) = aI E 20 (fun _ => 0) := (hg33 (i + 1) (by omega)).trans f1
  have f2 : g33 (i + 2) = aI E 20 (fun _ => 0) := (hg33 (i + 2) (by omega)).trans f2
  have v3 : NatV E A30 g33 (i + 3) 0 := v3.mv (fun _ _ _ => rfl) (fun k h1 h2 => hg33 k (by omega))
  have hW : wH E (wF A (i + 1) sz) A30 (i + 5) s_ g33 H locs := hW
  refine lv_aload_n X.1 X.2.1 dX4_init_36 rfl (lv_at hl 0 rfl) ?_
  refine x_new X hW (ci := 5) (fs := [.null]) rfl w_11 tyX5 tyX5_ok w_8 w_9 w_10 dfX5 (Nat.le_of_ble_eq_true rfl) (Nat.le_of_ble_eq_true rfl) dX4_init_37 (fun q5 A37 g37 H hq5 hA37 hg37 f5 hW => ?_)
  have ha : a0 = A37 i := ha.trans (hA37 (i) (by omega)).symm
  have hAA : ∀ k, k < i + 1 → A37 k = A k := fun k hk => (hA37 k (by omega)).trans (hAA k hk)
  have hGG : ∀ k, k < i → g37 k = g k := fun k hk => (hg37 k (by omega)).trans (hGG k hk)
  have ho : g37 i = .inr (4, [.ref q1, .ref q2, .int (iI (0)), .ref q3, .null, .null]) := (hg37 (i) (by omega)).trans ho
  have hq1 : q1 = A37 (i + 1) := hq1.trans (hA37 (i + 1) (by omega)).symm
  have f1 : g37 (i + 1) = aI E 20 (fun _ => 0) := (hg37 (i + 1) (by omega)).trans f1
  have hq2 : q2 = A37 (i + 2) := hq2.trans (hA37 (i + 2) (by omega)).symm
  have f2 : g37 (i + 2) = aI E 20 (fun _ => 0) := (hg37 (i + 2) (by omega)).trans f2
  have hq3 : q3 = A37 (i + 3) := hq3.trans (hA37 (i + 3) (by omega)).symm
  have v3 : NatV E A37 g37 (i + 3) 0 := v3.mv (fun k h1 h2 => hA37 k (by omega)) (fun k h1 h2 => hg37 k (by omega))
  have hW : wH E (wF A (i + 1) sz) A37 (i + 6) s_ g37 H locs := hW
  refine W.widen (k := 5) (n := 48) (Nat.le_of_ble_eq_true rfl) (Nat.le_of_ble_eq_true rfl) ?_
  refine lv_dup X.1 X.2.1 dX4_init_40 rfl ?_
  refine x_cIN X hW hO hq5 (c_X5_init l E A37 (i + 6) H.size g37 (i + 5) rfl f5) gX4_init_X5_init_n24 rfl rfl rfl (by decide) w_10 w_12 rfl (by decide +kernel) ⟨(Nat.le_of_ble_eq_true rfl), (Nat.le_of_ble_eq_true rfl)⟩ hl.1 (Nat.le_of_ble_eq_true rfl) dX4_init_41 ⟨(Nat.le_of_ble_eq_true rfl), (Nat.le_of_ble_eq_true rfl)⟩ (fun A41 g41 H locs hp41 hW => ?_)
  obtain ⟨hA41, hg41, v5⟩ := hp41
  have ha : a0 = A41 i := ha.trans (hA41 (i) (by omega)).symm
  have hAA : ∀ k, k < i + 1 → A41 k = A k := fun k hk => (hA41 k (by omega)).trans (hAA k hk)
  have hGG : ∀ k, k < i → g41 k = g k := fun k hk => (hg41 k (by omega)).trans (hGG k hk)
  have ho : g41 i = .inr (4, [.ref q1, .ref q2, .int (iI (0)), .ref q3, .null, .null]) := (hg41 (i) (by omega)).trans ho
  have hq1 : q1 = A41 (i + 1) := hq1.trans (hA41 (i + 1) (by omega)).symm
  have f1 : g41 (i + 1) = aI E 20 (fun _ => 0) := (hg41 (i + 1) (by omega)).trans f1
  have hq2 : q2 = A41 (i + 2) := hq2.trans (hA41 (i + 2) (by omega)).symm
  have f2 : g41 (i + 2) = aI E 20 (fun _ => 0) := (hg41 (i + 2) (by omega)).trans f2
  have hq3 : q3 = A41 (i + 3) := hq3.trans (hA41 (i + 3) (by omega)).symm
  have v3 : NatV E A41 g41 (i + 3) 0 := v3.mv (fun k h1 h2 => hA41 k (by omega)) (fun k h1 h2 => hg41 k (by omega))
  have hq5 : q5 = A41 (i + 5) := hq5.trans (hA41 (i + 5) (by omega)).symm
  have hW : wH E (wF A (i + 1) sz) A41 (i + 7) s_ g41 H locs := hW
  refine W.widen (k := 6) (n := 54) (Nat.le_of_ble_eq_true rfl) (Nat.le_of_ble_eq_true rfl) ?_
  refine xc_putF X hnm hW (v := .ref q5) ha (by omega) ho rfl w_4 tyX4 tyX4_ok nmX4 4 (by decide) w_14 rfl rfl rfl rfl (by show 4 < 6; decide) dX4_init_44 (fun g44 H locs ho hg44 hW => ?_)
  have ho : g44 i = .inr (4, [.ref q1, .ref q2, .int (iI (0)), .ref q3, .ref q5, .null]) := ho
  have hGG : ∀ k, k < i → g44 k = g k := fun k hk => (hg44 k (by omega)).trans (hGG k hk)
  have f1 : g44 (i + 1) = aI E 20 (fun _ => 0) := (hg44 (i + 1) (by omega)).trans f1
  have f2 : g44 (i + 2) = aI E 20 (fun _ => 0) := (hg44 (i + 2) (by omega)).trans f2
  have v3 : NatV E A41 g44 (i + 3) 0 := v3.mv (fun _ _ _ => rfl) (fun k h1 h2 => hg44 k (by omega))
  have v5 : NatV E A41 g44 (i + 5) 0 := v5.mv (fun _ _ _ => rfl) (fun k h1 h2 => hg44 k (by omega))
  have hW : wH E (wF A (i + 1) sz) A41 (i + 7) s_ g44 H locs := hW
  refine lv_aload_n X.1 X.2.1 dX4_init_47 rfl (lv_at hl 0 rfl) ?_
  refine x_new X hW (ci := 5) (fs := [.null]) rfl w_11 tyX5 tyX5_ok w_8 w_9 w_10 dfX5 (Nat.le_of_ble_eq_true rfl) (Nat.le_of_ble_eq_true rfl) dX4_init_48 (fun q7 A48 g48 H hq7 hA48 hg48 f7 hW => ?_)
  have ha : a0 = A48 i := ha.trans (hA48 (i) (by omega)).symm
  have hAA : ∀ k, k < i + 1 → A48 k = A k := fun k hk => (hA48 k (by omega)).trans (hAA k hk)
  have hGG : ∀ k, k < i → g48 k = g k := fun k hk => (hg48 k (by omega)).trans (hGG k hk)
  have ho : g48 i = .inr (4, [.ref q1, .ref q2, .int (iI (0)), .ref q3, .ref q5, .null]) := (hg48 (i) (by omega)).trans ho
  have hq1 : q1 = A48 (i + 1) := hq1.trans (hA48 (i + 1) (by omega)).symm
  have f1 : g48 (i + 1) = aI E 20 (fun _ => 0) := (hg48 (i + 1) (by omega)).trans f1
  have hq2 : q2 = A48 (i + 2) := hq2.trans (hA48 (i + 2) (by omega)).symm
  have f2 : g48 (i + 2) = aI E 20 (fun _ => 0) := (hg48 (i + 2) (by omega)).trans f2
  have hq3 : q3 = A48 (i + 3) := hq3.trans (hA48 (i + 3) (by omega)).symm
  have v3 : NatV E A48 g48 (i + 3) 0 := v3.mv (fun k h1 h2 => hA48 k (by omega)) (fun k h1 h2 => hg48 k (by omega))
  have hq5 : q5 = A48 (i + 5) := hq5.trans (hA48 (i + 5) (by omega)).symm
  have v5 : NatV E A48 g48 (i + 5) 0 := v5.mv (fun k h1 h2 => hA48 k (by omega)) (fun k h1 h2 => hg48 k (by omega))
  have hW : wH E (wF A (i + 1) sz) A48 (i + 8) s_ g48 H locs := hW
  refine W.widen (k := 7) (n := 55) (Nat.le_of_ble_eq_true rfl) (Nat.le_of_ble_eq_true rfl) ?_
  refine lv_dup X.1 X.2.1 dX4_init_51 rfl ?_
  refine x_cIN X hW hO hq7 (c_X5_init l E A48 (i + 8) H.size g48 (i + 7) rfl f7) gX4_init_X5_init_n24 rfl rfl rfl (by decide) w_10 w_12 rfl (by decide +kernel) ⟨(Nat.le_of_ble_eq_true rfl), (Nat.le_of_ble_eq_true rfl)⟩ hl.1 (Nat.le_of_ble_eq_true rfl) dX4_init_52 ⟨(Nat.le_of_ble_eq_true rfl), (Nat.le_of_ble_eq_true rfl)⟩ (fun A52 g52 H locs hp52 hW => ?_)
  obtain ⟨hA52, hg52, v7⟩ := hp52
  have ha : a0 = A52 i := ha.trans (hA52 (i) (by omega)).symm
  have hAA : ∀ k, k < i + 1 → A52 k = A k := fun k hk => (hA52 k (by omega)).trans (hAA k hk)
  have hGG : ∀ k, k < i → g52 k = g k := fun k hk => (hg52 k (by omega)).trans (hGG k hk)
  have ho : g52 i = .inr (4, [.ref q1, .ref q2, .int (iI (0)), .ref q3, .ref q5, .null]) := (hg52 (i) (by omega)).trans ho
  have hq1 : q1 = A52 (i + 1) := hq1.trans (hA52 (i + 1) (by omega)).symm
  have f1 : g52 (i + 1) = aI E 20 (fun _ => 0) := (hg52 (i + 1) (by omega)).trans f1
  have hq2 : q2 = A52 (i + 2) := hq2.trans (hA52 (i + 2) (by omega)).symm
  have f2 : g52 (i + 2) = aI E 20 (fun _ => 0) := (hg52 (i + 2) (by omega)).trans f2
  have hq3 : q3 = A52 (i + 3) := hq3.trans (hA52 (i + 3) (by omega)).symm
  have v3 : NatV E A52 g52 (i + 3) 0 := v3.mv (fun k h1 h2 => hA52 k (by omega)) (fun k h1 h2 => hg52 k (by omega))
  have hq5 : q5 = A52 (i + 5) := hq5.trans (hA52 (i + 5) (by omega)).symm
  have v5 : NatV E A52 g52 (i + 5) 0 := v5.mv (fun k h1 h2 => hA52 k (by omega)) (fun k h1 h2 => hg52 k (by omega))
  have hq7 : q7 = A52 (i + 7) := hq7.trans (hA52 (i + 7) (by omega)).symm
  have hW : wH E (wF A (i + 1) sz) A52 (i + 9) s_ g52 H locs := hW
  refine W.widen (k := 8) (n := 61) (Nat.le_of_ble_eq_true rfl) (Nat.le_of_ble_eq_true rfl) ?_
  refine xc_putF X hnm hW (v := .ref q7) ha (by omega) ho rfl w_4 tyX4 tyX4_ok nmX4 5 (by decide) w_15 rfl rfl rfl rfl (by show 5 < 6; decide) dX4_init_55 (fun g55 H locs ho hg55 hW => ?_)
  have ho : g55 i = .inr (4, [.ref q1, .ref q2, .int (iI (0)), .ref q3, .ref q5, .ref q7]) := ho
  have hGG : ∀ k, k < i → g55 k = g k := fun k hk => (hg55 k (by omega)).trans (hGG k hk)
  have f1 : g55 (i + 1) = aI E 20 (fun _ => 0) := (hg55 (i + 1) (by omega)).trans f1
  have f2 : g55 (i + 2) = aI E 20 (fun _ => 0) := (hg55 (i + 2) (by omega)).trans f2
  have v3 : NatV E A52 g55 (i + 3) 0 := v3.mv (fun _ _ _ => rfl) (fun k h1 h2 => hg55 k (by omega))
  have v5 : NatV E A52 g55 (i + 5) 0 := v5.mv (fun _ _ _ => rfl) (fun k h1 h2 => hg55 k (by omega))
  have v7 : NatV E A52 g55 (i + 7) 0 := v7.mv (fun _ _ _ => rfl) (fun k h1 h2 => hg55 k (by omega))
  have hW : wH E (wF A (i + 1) sz) A52 (i + 9) s_ g55 H locs := hW
  refine x_vretC X hr hlk hW (Nat.le_of_ble_eq_true rfl) (Nat.le_of_ble_eq_true rfl) ⟨hAA, hGG, ?_⟩ dX4_init_58
  rw [hq1, hq2, hq3, hq5, hq7] at ho
  exact ⟨ho, by omega, fun k hk => absurd hk (by omega), ⟨_, _, f1, f2, fun k hk => absurd hk (by omega)⟩, v3.any, v5.any, v7.any⟩
set_option maxHeartbeats 4000000 in
set_option maxRecDepth 100000 in
theorem c_X8_init (l : Launch) (E : wE) (A : Nat → Nat) (n sz : Nat) (g : Nat → va_E) (i : Nat) (hn : n = i + 1) (hg : g i = .inr (8, [.null, .null, .null, .null, .int 0])) : Met l yX8_init wsX8_init ({ frames := 2, cells := 8, slots := 28, locals := 120 } : Room) (va_Pc [.ref (A i)] (wPreC E A n sz g)) (va_Qv (fun u : (Nat → Nat) × (Nat → va_E) => (∀ k, k < n → u.1 k = A k) ∧ (∀ k, k < i → u.2 k = g k) ∧ ResV E u.1 u.2 i 0 1) (wAtC E (wF A n sz) (n + 8)) (wF A n sz)) 8 28 (wF A n sz) := by
  subst hn
  refine x_metC (cc := cX8_init) (maxL := 1) (ret := none) [.ref (A i)] (by decide) rfl (Nat.le_of_ble_eq_true rfl) ?_
  intro p_ e_ s_ m_ args below meth c_ ls X hr hlk hnm hsz hW hO hl
  obtain ⟨a0, ha⟩ : ∃ a0, a0 = A i := ⟨_, rfl⟩
  have hl : lv_has ls 1 [(0, .ref a0)] := by rw [ha]; exact hl
  generalize ([] : List Loc) = locs at hW ⊢
  have w_0 : Cond.methodLink RX8 1 objectInit ∈ wsX8_init := by decide +kernel
  have w_1 : Cond.instanceMethod objectInit ∈ wsX8_init := by decide +kernel
  have w_2 : Cond.code objectInit ⟨#[0xb1]⟩ 1 none ∈ wsX8_init := List.mem_of_getElem? (i := 3) rfl
  have w_3 : Cond.classLink RX8 7 RX5 ∈ wsX8_init := by decide +kernel
  have w_4 : Cond.instantiable RX5 1 ∈ wsX8_init := by decide +kernel
  have w_5 : Cond.initialized RX5 ∈ wsX8_init := by decide +kernel
  have w_6 : ∀ w ∈ u_ws RX5 TX5 1, w ∈ wsX8_init := by decide +kernel
  have w_7 : Cond.instanceMethod yX5_init ∈ wsX8_init := by decide +kernel
  have w_8 : ∀ w ∈ u_ws RX8 TX8 5, w ∈ wsX8_init := by decide +kernel
  have w_9 : Cond.fieldLink RX8 10 (TX8 0).1 (TX8 0).2.1 (TX8 0).2.2.1 ∈ wsX8_init := by decide +kernel
  have w_10 : Cond.fieldLink RX8 16 (TX8 1).1 (TX8 1).2.1 (TX8 1).2.2.1 ∈ wsX8_init := by decide +kernel
  have w_11 : Cond.fieldLink RX8 19 (TX8 2).1 (TX8 2).2.1 (TX8 2).2.2.1 ∈ wsX8_init := by decide +kernel
  have w_12 : Cond.fieldLink RX8 22 (TX8 3).1 (TX8 3).2.1 (TX8 3).2.2.1 ∈ wsX8_init := by decide +kernel
  have w_13 : Cond.fieldLink RX8 25 (TX8 4).1 (TX8 4).2.1 (TX8 4).2.2.1 ∈ wsX8_init := by decide +kernel
  have hAA : ∀ k, k < i + 1 → A k = A k := fun _ _ => rfl
  have hGG : ∀ k, k < i → g k = g k := fun _ _ => rfl
  have ho : g i = .inr (8, [.null, .null, .null, .null, .int 0]) := hg
  refine lv_aload_n X.1 X.2.1 dX8_init_0 rfl (lv_at hl 0 rfl) ?_
  refine x_objInit X w_0 w_1 w_2 hl.1 (Nat.le_of_ble_eq_true rfl) (Nat.le_of_ble_eq_true rfl) dX8_init_1 ?_
  refine lv_aload_n X.1 X.2.1 dX8_init_4 rfl (lv_at hl 0 rfl) ?_
  refine x_new X hW (ci := 5) (fs := [.null]) rfl w_6 tyX5 tyX5_ok w_3 w_4 w_5 dfX5 (Nat.le_of_ble_eq_true rfl) (Nat.le_of_ble_eq_true rfl) dX8_init_5 (fun q1 A5 g5 H hq1 hA5 hg5 f1 hW => ?_)
  have ha : a0 = A5 i := ha.trans (hA5 (i) (by omega)).symm
  have hAA : ∀ k, k < i + 1 → A5 k = A k := fun k hk => (hA5 k (by omega)).trans (hAA k hk)
  have hGG : ∀ k, k < i → g5 k = g k := fun k hk => (hg5 k (by omega)).trans (hGG k hk)
  have ho : g5 i = .inr (8, [.null, .null, .null, .null, .int 0]) := (hg5 (i) (by omega)).trans ho
  have hW : wH E (wF A (i + 1) sz) A5 (i + 2) s_ g5 H locs := hW
  refine W.widen (k := 1) (n := 1) (Nat.le_of_ble_eq_true rfl) (Nat.le_of_ble_eq_true rfl) ?_
  refine lv_dup X.1 X.2.1 dX8_init_8 rfl ?_
  refine x_cIN X hW hO hq1 (c_X5_init l E A5 (i + 2) H.size g5 (i + 1) rfl f1) gX8_init_X5_init_n9 rfl rfl rfl (by decide) w_5 w_7 rfl (by decide +kernel) ⟨(Nat.le_of_ble_eq_true rfl), (Nat.le_of_ble_eq_true rfl)⟩ hl.1 (Nat.le_of_ble_eq_true rfl) dX8_init_9 ⟨(Nat.le_of_ble_eq_true rfl), (Nat.le_of_ble_eq_true rfl)⟩ (fun A9 g9 H locs hp9 hW => ?_)
  obtain ⟨hA9, hg9, v1⟩ := hp9
  have ha : a0 = A9 i := ha.trans (hA9 (i) (by omega)).symm
  have hAA : ∀ k, k < i + 1 → A9 k = A k := fun k hk => (hA9 k (by omega)).trans (hAA k hk)
  have hGG : ∀ k, k < i → g9 k = g k := fun k hk => (hg9 k (by omega)).trans (hGG k hk)
  have ho : g9 i = .inr (8, [.null, .null, .null, .null, .int 0]) := (hg9 (i) (by omega)).trans ho
  have hq1 : q1 = A9 (i + 1) := hq1.trans (hA9 (i + 1) (by omega)).symm
  have hW : wH E (wF A (i + 1) sz) A9 (i + 3) s_ g9 H locs := hW
  refine W.widen (k := 2) (n := 7) (Nat.le_of_ble_eq_true rfl) (Nat.le_of_ble_eq_true rfl) ?_
  refine xc_putF X hnm hW (v := .ref q1) ha (by omega) ho rfl w_8 tyX8 tyX8_ok nmX8 0 (by decide) w_9 rfl rfl rfl rfl (by show 0 < 5; decide) dX8_init_12 (fun g12 H locs ho hg12 hW => ?_)
  have ho : g12 i = .inr (8, [.ref q1, .null, .null, .null, .int 0]) := ho
  have hGG : ∀ k, k < i → g12 k = g k := fun k hk => (hg12 k (by omega)).trans (hGG k hk)
  have v1 : NatV E A9 g12 (i + 1) 0 := v1.mv (fun _ _ _ => rfl) (fun k h1 h2 => hg12 k (by omega))
  have hW : wH E (wF A (i + 1) sz) A9 (i + 3) s_ g12 H locs := hW
  refine lv_aload_n X.1 X.2.1 dX8_init_15 rfl (lv_at hl 0 rfl) ?_
  refine x_new X hW (ci := 5) (fs := [.null]) rfl w_6 tyX5 tyX5_ok w_3 w_4 w_5 dfX5 (Nat.le_of_ble_eq_true rfl) (Nat.le_of_ble_eq_true rfl) dX8_init_16 (fun q3 A16 g16 H hq3 hA16 hg16 f3 hW => ?_)
  have ha : a0 = A16 i := ha.trans (hA16 (i) (by omega)).symm
  have hAA : ∀ k, k < i + 1 → A16 k = A k := fun k hk => (hA16 k (by omega)).trans (hAA k hk)
  have hGG : ∀ k, k < i → g16 k = g k := fun k hk => (hg16 k (by omega)).trans (hGG k hk)
  have ho : g16 i = .inr (8, [.ref q1, .null, .null, .null, .int 0]) := (hg16 (i) (by omega)).trans ho
  have hq1 : q1 = A16 (i + 1) := hq1.trans (hA16 (i + 1) (by omega)).symm
  have v1 : NatV E A16 g16 (i + 1) 0 := v1.mv (fun k h1 h2 => hA16 k (by omega)) (fun k h1 h2 => hg16 k (by omega))
  have hW : wH E (wF A (i + 1) sz) A16 (i + 4) s_ g16 H locs := hW
  refine W.widen (k := 3) (n := 8) (Nat.le_of_ble_eq_true rfl) (Nat.le_of_ble_eq_true rfl) ?_
  refine lv_dup X.1 X.2.1 dX8_init_19 rfl ?_
  refine x_cIN X hW hO hq3 (c_X5_init l E A16 (i + 4) H.size g16 (i + 3) rfl f3) gX8_init_X5_init_n9 rfl rfl rfl (by decide) w_5 w_7 rfl (by decide +kernel) ⟨(Nat.le_of_ble_eq_true rfl), (Nat.le_of_ble_eq_true rfl)⟩ hl.1 (Nat.le_of_ble_eq_true rfl) dX8_init_20 ⟨(Nat.le_of_ble_eq_true rfl), (Nat.le_of_ble_eq_true rfl)⟩ (fun A20 g20 H locs hp20 hW => ?_)
  obtain ⟨hA20, hg20, v3⟩ := hp20
  have ha : a0 = A20 i := ha.trans (hA20 (i) (by omega)).symm
  have hAA : ∀ k, k < i + 1 → A20 k = A k := fun k hk => (hA20 k (by omega)).trans (hAA k hk)
  have hGG : ∀ k, k < i → g20 k = g k := fun k hk => (hg20 k (by omega)).trans (hGG k hk)
  have ho : g20 i = .inr (8, [.ref q1, .null, .null, .null, .int 0]) := (hg20 (i) (by omega)).trans ho
  have hq1 : q1 = A20 (i + 1) := hq1.trans (hA20 (i + 1) (by omega)).symm
  have v1 : NatV E A20 g20 (i + 1) 0 := v1.mv (fun k h1 h2 => hA20 k (by omega)) (fun k h1 h2 => hg20 k (by omega))
  have hq3 : q3 = A20 (i + 3) := hq3.trans (hA20 (i + 3) (by omega)).symm
  have hW : wH E (wF A (i + 1) sz) A20 (i + 5) s_ g20 H locs := hW
  refine W.widen (k := 4) (n := 14) (Nat.le_of_ble_eq_true rfl) (Nat.le_of_ble_eq_true rfl) ?_
  refine xc_putF X hnm hW (v := .ref q3) ha (by omega) ho rfl w_8 tyX8 tyX8_ok nmX8 1 (by decide) w_10 rfl rfl rfl rfl (by show 1 < 5; decide) dX8_init_23 (fun g23 H locs ho hg23 hW => ?_)
  have ho : g23 i = .inr (8, [.ref q1, .ref q3, .null, .null, .int 0]) := ho
  have hGG : ∀ k, k < i → g23 k = g k := fun k hk => (hg23 k (by omega)).trans (hGG k hk)
  have v1 : NatV E A20 g23 (i + 1) 0 := v1.mv (fun _ _ _ => rfl) (fun k h1 h2 => hg23 k (by omega))
  have v3 : NatV E A20 g23 (i + 3) 0 := v3.mv (fun _ _ _ => rfl) (fun k h1 h2 => hg23 k (by omega))
  have hW : wH E (wF A (i + 1) sz) A20 (i + 5) s_ g23 H locs := hW
  refine lv_aload_n X.1 X.2.1 dX8_init_26 rfl (lv_at hl 0 rfl) ?_
  refine x_new X hW (ci := 5) (fs := [.null]) rfl w_6 tyX5 tyX5_ok w_3 w_4 w_5 dfX5 (Nat.le_of_ble_eq_true rfl) (Nat.le_of_ble_eq_true rfl) dX8_init_27 (fun q5 A27 g27 H hq5 hA27 hg27 f5 hW => ?_)
  have ha : a0 = A27 i := ha.trans (hA27 (i) (by omega)).symm
  have hAA : ∀ k, k < i + 1 → A27 k = A k := fun k hk => (hA27 k (by omega)).trans (hAA k hk)
  have hGG : ∀ k, k < i → g27 k = g k := fun k hk => (hg27 k (by omega)).trans (hGG k hk)
  have ho : g27 i = .inr (8, [.ref q1, .ref q3, .null, .null, .int 0]) := (hg27 (i) (by omega)).trans ho
  have hq1 : q1 = A27 (i + 1) := hq1.trans (hA27 (i + 1) (by omega)).symm
  have v1 : NatV E A27 g27 (i + 1) 0 := v1.mv (fun k h1 h2 => hA27 k (by omega)) (fun k h1 h2 => hg27 k (by omega))
  have hq3 : q3 = A27 (i + 3) := hq3.trans (hA27 (i + 3) (by omega)).symm
  have v3 : NatV E A27 g27 (i + 3) 0 := v3.mv (fun k h1 h2 => hA27 k (by omega)) (fun k h1 h2 => hg27 k (by omega))
  have hW : wH E (wF A (i + 1) sz) A27 (i + 6) s_ g27 H locs := hW
  refine W.widen (k := 5) (n := 15) (Nat.le_of_ble_eq_true rfl) (Nat.le_of_ble_eq_true rfl) ?_
  refine lv_dup X.1 X.2.1 dX8_init_30 rfl ?_
  refine x_cIN X hW hO hq5 (c_X5_init l E A27 (i + 6) H.size g27 (i + 5) rfl f5) gX8_init_X5_init_n9 rfl rfl rfl (by decide) w_5 w_7 rfl (by decide +kernel) ⟨(Nat.le_of_ble_eq_true rfl), (Nat.le_of_ble_eq_true rfl)⟩ hl.1 (Nat.le_of_ble_eq_true rfl) dX8_init_31 ⟨(Nat.le_of_ble_eq_true rfl), (Nat.le_of_ble_eq_true rfl)⟩ (fun A31 g31 H locs hp31 hW => ?_)
  obtain ⟨hA31, hg31, v5⟩ := hp31
  have ha : a0 = A31 i := ha.trans (hA31 (i) (by omega)).symm
  have hAA : ∀ k, k < i + 1 → A31 k = A k := fun k hk => (hA31 k (by omega)).trans (hAA k hk)
  have hGG : ∀ k, k < i → g31 k = g k := fun k hk => (hg31 k (by omega)).trans (hGG k hk)
  have ho : g31 i = .inr (8, [.ref q1, .ref q3, .null, .null, .int 0]) := (hg31 (i) (by omega)).trans ho
  have hq1 : q1 = A31 (i + 1) := hq1.trans (hA31 (i + 1) (by omega)).symm
  have v1 : NatV E A31 g31 (i + 1) 0 := v1.mv (fun k h1 h2 => hA31 k (by omega)) (fun k h1 h2 => hg31 k (by omega))
  have hq3 : q3 = A31 (i + 3) := hq3.trans (hA31 (i + 3) (by omega)).symm
  have v3 : NatV E A31 g31 (i + 3) 0 := v3.mv (fun k h1 h2 => hA31 k (by omega)) (fun k h1 h2 => hg31 k (by omega))
  have hq5 : q5 = A31 (i + 5) := hq5.trans (hA31 (i + 5) (by omega)).symm
  have hW : wH E (wF A (i + 1) sz) A31 (i + 7) s_ g31 H locs := hW
  refine W.widen (k := 6) (n := 21) (Nat.le_of_ble_eq_true rfl) (Nat.le_of_ble_eq_true rfl) ?_
  refine xc_putF X hnm hW (v := .ref q5) ha (by omega) ho rfl w_8 tyX8 tyX8_ok nmX8 2 (by decide) w_11 rfl rfl rfl rfl (by show 2 < 5; decide) dX8_init_34 (fun g34 H locs ho hg34 hW => ?_)
  have ho : g34 i = .inr (8, [.ref q1, .ref q3, .ref q5, .null, .int 0]) := ho
  have hGG : ∀ k, k < i → g34 k = g k := fun k hk => (hg34 k (by omega)).trans (hGG k hk)
  have v1 : NatV E A31 g34 (i + 1) 0 := v1.mv (fun _ _ _ => rfl) (fun k h1 h2 => hg34 k (by omega))
  have v3 : NatV E A31 g34 (i + 3) 0 := v3.mv (fun _ _ _ => rfl) (fun k h1 h2 => hg34 k (by omega))
  have v5 : NatV E A31 g34 (i + 5) 0 := v5.mv (fun _ _ _ => rfl) (fun k h1 h2 => hg34 k (by omega))
  have hW : wH E (wF A (i + 1) sz) A31 (i + 7) s_ g34 H locs := hW
  refine lv_aload_n X.1 X.2.1 dX8_init_37 rfl (lv_at hl 0 rfl) ?_
  refine x_new X hW (ci := 5) (fs := [.null]) rfl w_6 tyX5 tyX5_ok w_3 w_4 w_5 dfX5 (Nat.le_of_ble_eq_true rfl) (Nat.le_of_ble_eq_true rfl) dX8_init_38 (fun q7 A38 g38 H hq7 hA38 hg38 f7 hW => ?_)
  have ha : a0 = A38 i := ha.trans (hA38 (i) (by omega)).symm
  have hAA : ∀ k, k < i + 1 → A38 k = A k := fun k hk => (hA38 k (by omega)).trans (hAA k hk)
  have hGG : ∀ k, k < i → g38 k = g k := fun k hk => (hg38 k (by omega)).trans (hGG k hk)
  have ho : g38 i = .inr (8, [.ref q1, .ref q3, .ref q5, .null, .int 0]) := (hg38 (i) (by omega)).trans ho
  have hq1 : q1 = A38 (i + 1) := hq1.trans (hA38 (i + 1) (by omega)).symm
  have v1 : NatV E A38 g38 (i + 1) 0 := v1.mv (fun k h1 h2 => hA38 k (by omega)) (fun k h1 h2 => hg38 k (by omega))
  have hq3 : q3 = A38 (i + 3) := hq3.trans (hA38 (i + 3) (by omega)).symm
  have v3 : NatV E A38 g38 (i + 3) 0 := v3.mv (fun k h1 h2 => hA38 k (by omega)) (fun k h1 h2 => hg38 k (by omega))
  have hq5 : q5 = A38 (i + 5) := hq5.trans (hA38 (i + 5) (by omega)).symm
  have v5 : NatV E A38 g38 (i + 5) 0 := v5.mv (fun k h1 h2 => hA38 k (by omega)) (fun k h1 h2 => hg38 k (by omega))
  have hW : wH E (wF A (i + 1) sz) A38 (i + 8) s_ g38 H locs := hW
  refine W.widen (k := 7) (n := 22) (Nat.le_of_ble_eq_true rfl) (Nat.le_of_ble_eq_true rfl) ?_
  refine lv_dup X.1 X.2.1 dX8_init_41 rfl ?_
  refine x_cIN X hW hO hq7 (c_X5_init l E A38 (i + 8) H.size g38 (i + 7) rfl f7) gX8_init_X5_init_n9 rfl rfl rfl (by decide) w_5 w_7 rfl (by decide +kernel) ⟨(Nat.le_of_ble_eq_true rfl), (Nat.le_of_ble_eq_true rfl)⟩ hl.1 (Nat.le_of_ble_eq_true rfl) dX8_init_42 ⟨(Nat.le_of_ble_eq_true rfl), (Nat.le_of_ble_eq_true rfl)⟩ (fun A42 g42 H locs hp42 hW => ?_)
  obtain ⟨hA42, hg42, v7⟩ := hp42
  have ha : a0 = A42 i := ha.trans (hA42 (i) (by omega)).symm
  have hAA : ∀ k, k < i + 1 → A42 k = A k := fun k hk => (hA42 k (by omega)).trans (hAA k hk)
  have hGG : ∀ k, k < i → g42 k = g k := fun k hk => (hg42 k (by omega)).trans (hGG k hk)
  have ho : g42 i = .inr (8, [.ref q1, .ref q3, .ref q5, .null, .int 0]) := (hg42 (i) (by omega)).trans ho
  have hq1 : q1 = A42 (i + 1) := hq1.trans (hA42 (i + 1) (by omega)).symm
  have v1 : NatV E A42 g42 (i + 1) 0 := v1.mv (fun k h1 h2 => hA42 k (by omega)) (fun k h1 h2 => hg42 k (by omega))
  have hq3 : q3 = A42 (i + 3) := hq3.trans (hA42 (i + 3) (by omega)).symm
  have v3 : NatV E A42 g42 (i + 3) 0 := v3.mv (fun k h1 h2 => hA42 k (by omega)) (fun k h1 h2 => hg42 k (by omega))
  have hq5 : q5 = A42 (i + 5) := hq5.trans (hA42 (i + 5) (by omega)).symm
  have v5 : NatV E A42 g42 (i + 5) 0 := v5.mv (fun k h1 h2 => hA42 k (by omega)) (fun k h1 h2 => hg42 k (by omega))
  have hq7 : q7 = A42 (i + 7) := hq7.trans (hA42 (i + 7) (by omega)).symm
  have hW : wH E (wF A (i + 1) sz) A42 (i + 9) s_ g42 H locs := hW
  refine W.widen (k := 8) (n := 28) (Nat.le_of_ble_eq_true rfl) (Nat.le_of_ble_eq_true rfl) ?_
  refine xc_putF X hnm hW (v := .ref q7) ha (by omega) ho rfl w_8 tyX8 tyX8_ok nmX8 3 (by decide) w_12 rfl rfl rfl rfl (by show 3 < 5; decide) dX8_init_45 (fun g45 H locs ho hg45 hW => ?_)
  have ho : g45 i = .inr (8, [.ref q1, .ref q3, .ref q5, .ref q7, .int 0]) := ho
  have hGG : ∀ k, k < i → g45 k = g k := fun k hk => (hg45 k (by omega)).trans (hGG k hk)
  have v1 : NatV E A42 g45 (i + 1) 0 := v1.mv (fun _ _ _ => rfl) (fun k h1 h2 => hg45 k (by omega))
  have v3 : NatV E A42 g45 (i + 3) 0 := v3.mv (fun _ _ _ => rfl) (fun k h1 h2 => hg45 k (by omega))
  have v5 : NatV E A42 g45 (i + 5) 0 := v5.mv (fun _ _ _ => rfl) (fun k h1 h2 => hg45 k (by omega))
  have v7 : NatV E A42 g45 (i + 7) 0 := v7.mv (fun _ _ _ => rfl) (fun k h1 h2 => hg45 k (by omega))
  have hW : wH E (wF A (i + 1) sz) A42 (i + 9) s_ g45 H locs := hW
  refine lv_aload_n X.1 X.2.1 dX8_init_48 rfl (lv_at hl 0 rfl) ?_
  refine x_iconst X dX8_init_49 ?_
  refine xc_put X hW (v := .int (iI (0))) ha (by omega) ho rfl w_8 tyX8 tyX8_ok nmX8 4 (by decide) w_13 rfl rfl rfl (by show 4 < 5; decide) dX8_init_50 (fun g50 H locs ho hg50 hW => ?_)
  have ho : g50 i = .inr (8, [.ref q1, .ref q3, .ref q5, .ref q7, .int (iI (0))]) := ho
  have hGG : ∀ k, k < i → g50 k = g k := fun k hk => (hg50 k (by omega)).trans (hGG k hk)
  have v1 : NatV E A42 g50 (i + 1) 0 := v1.mv (fun _ _ _ => rfl) (fun k h1 h2 => hg50 k (by omega))
  have v3 : NatV E A42 g50 (i + 3) 0 := v3.mv (fun _ _ _ => rfl) (fun k h1 h2 => hg50 k (by omega))
  have v5 : NatV E A42 g50 (i + 5) 0 := v5.mv (fun _ _ _ => rfl) (fun k h1 h2 => hg50 k (by omega))
  have v7 : NatV E A42 g50 (i + 7) 0 := v7.mv (fun _ _ _ => rfl) (fun k h1 h2 => hg50 k (by omega))
  have hW : wH E (wF A (i + 1) sz) A42 (i + 9) s_ g50 H locs := hW
  refine lv_aload_n X.1 X.2.1 dX8_init_53 rfl (lv_at hl 0 rfl) ?_
  refine xc_get X hW ha (by omega) ho rfl w_8 1 (by decide) w_10 rfl dX8_init_54 ?_
  refine x_lconst X 1 (by decide) dX8_init_57 ?_
  rw [hq3]
  refine x_cv (x_runV (As := [.long (lI 1)]) (k := 1) X hW (c_X5_put l E A42 (i + 9) H.size g50 (i + 3) 1 (by omega) v3.any (by decide)) (by omega) v3.2.1 rfl gX8_init_X5_put rfl rfl rfl (by decide +kernel) ⟨(Nat.le_of_ble_eq_true rfl), (Nat.le_of_ble_eq_true rfl)⟩ rfl hl.1 rfl (Nat.le_of_ble_eq_true rfl) dX8_init_58 ⟨(Nat.le_of_ble_eq_true rfl), (Nat.le_of_ble_eq_true rfl)⟩) hW (fun g58 H locs hp58 hW => ?_)
  obtain ⟨v3, hg58⟩ := hp58
  have hGG : ∀ k, k < i → g58 k = g k := fun k hk => (hg58 k (by omega)).trans (hGG k hk)
  have ho : g58 i = .inr (8, [.ref q1, .ref q3, .ref q5, .ref q7, .int (iI (0))]) := (hg58 (i) (by omega)).trans ho
  have v1 : NatV E A42 g58 (i + 1) 0 := v1.mv (fun _ _ _ => rfl) (fun k h1 h2 => hg58 k (by omega))
  have v5 : NatV E A42 g58 (i + 5) 0 := v5.mv (fun _ _ _ => rfl) (fun k h1 h2 => hg58 k (by omega))
  have v7 : NatV E A42 g58 (i + 7) 0 := v7.mv (fun _ _ _ => rfl) (fun k h1 h2 => hg58 k (by omega))
  refine x_vretC X hr hlk hW (Nat.le_of_ble_eq_true rfl) (Nat.le_of_ble_eq_true rfl) ⟨hAA, hGG, ?_⟩ dX8_init_61
  rw [hq1, hq3, hq5, hq7] at ho
  exact ⟨ho, v1, v3, v5.any, v7.any, by omega⟩
