theorem wH_empty {E : wE} {s : State} {A : Nat → Nat} {g : Nat → va_E} (hK : va_K E.1 vwCl (eT E) s) (hN : wN s) (hZ : wZ E.2.2 (fun q => s.heap.size ≤ q) s s.heap) : wH E (fun q => s.heap.size ≤ q) A 0 s g s.heap [] :=
  ⟨fun k q h => by simp [wW] at h, ⟨fun i j p q h => by simp [wW] at h, fun k q h => by simp [wW] at h⟩, va_S.rf, hK, hN, hZ, fun _ h => h⟩
set_option maxHeartbeats 4000000 in
set_option maxRecDepth 100000 in
/-- from the entry, for every script of at most 2560 ints, the law comes to its end with true -/
theorem whole_start {p : Program} {e : Env} {s : State} {m : MethodId} {below : List Frame} {meth : Method} {c : Code} (l : Launch) {b L : Nat} {xs : Nat → Int32} (hL : L ≤ 2560) (C0 : lw_At p s m meth c b L xs) : W p l e room_1 s m #[Value.ref b] below meth c s.heap [] 0 0 (lw_Z below #[Value.ref b] s) (entryFrame m ([Value.ref b] : List Value).toArray 4) := by
  obtain ⟨E, hK, hN, hO, hZ⟩ := law_E C0
  obtain ⟨hx, hb, hr, hml, hown, hts, hX, hbl, hlocks, hgv⟩ := C0
  have X : CallFix p m c cL_law 4 s #[Value.ref b] wsL_law RL := ⟨hx, hb, hml, hown, fun w h => hts w (wsL_law_in w h)⟩
  have hS : SX (fun q => s.heap.size ≤ q) s b L xs := ⟨hX, hbl, Nat.not_le.mpr hbl, hL⟩
  have hl := lv_entry ([.ref b]) (n := 4) (Nat.le_of_ble_eq_true rfl)
  rw [lg_entry_eq]
  generalize (lg_sl ([.ref b]) ++ List.replicate (4 - (lg_sl ([.ref b])).length) Slot.unset).toArray = ls at hl ⊢
  have hl : lv_has ls 4 [(0, .ref b)] := hl
  have hW := wH_empty (A := fun _ => 0) (g := fun _ => .inr (0, [])) hK hN hZ
  generalize ([] : List Loc) = locs at hW ⊢
  refine x_new X hW (ci := 10) (fs := [.null, .null, .int 0, .null, .null, .null, .null, .null, .null]) rfl inlX10 tyX10 tyX10_ok (inr1L _ (by decide +kernel : Cond.classLink RL 7 RX10 ∈ wsL_law_r1)) (inr1L _ (by decide +kernel : Cond.instantiable RX10 9 ∈ wsL_law_r1)) (inr1L _ (by decide +kernel : Cond.initialized RX10 ∈ wsL_law_r1)) dfX10 (Nat.le_of_ble_eq_true rfl) (Nat.le_of_ble_eq_true rfl) dL_law_0 (fun q1 A1 g1 H hq1 hA1 hg1 f1 hW => ?_)
  refine lv_dup X.1 X.2.1 dL_law_3 rfl ?_
  refine x_cI X hW hO hq1 (c_X10_init l E A1 1 H.size g1 0 rfl f1) gL_law_X10_init rfl rfl rfl (inr1L _ (by decide +kernel : Cond.initialized RX10 ∈ wsL_law_r1)) (inr1L _ (by decide +kernel : Cond.methodLink RL 9 yX10_init ∈ wsL_law_r1)) (inr1L _ (by decide +kernel : Cond.instanceMethod yX10_init ∈ wsL_law_r1)) rfl (by decide +kernel) ⟨(Nat.le_of_ble_eq_true rfl), (Nat.le_of_ble_eq_true rfl)⟩ hl.1 (Nat.le_of_ble_eq_true rfl) dL_law_4 ⟨(Nat.le_of_ble_eq_true rfl), (Nat.le_of_ble_eq_true rfl)⟩ (fun A2 g2 H locs hp2 hW => ?_)
  obtain ⟨hA2, -, hB2⟩ := hp2
  have hq1 : q1 = A2 0 := hq1.trans (hA2 0 (by omega)).symm
  have hW : wH E (fun q => s.heap.size ≤ q) A2 210 s g2 H locs := hW
  refine W.widen (k := 210) (n := 1442) (Nat.le_of_ble_eq_true rfl) (Nat.le_of_ble_eq_true rfl) ?_
  refine lv_astore_n (lv' := [(1, .ref q1), (0, .ref b)]) X.1 X.2.1 dL_law_7 rfl hl (by decide) rfl (fun ls hl => ?_)
  refine x_new X hW (ci := 11) (fs := [.null, .null, .null, .null, .int 0, .null, .null, .null, .null, .int 0, .null, .null, .null, .int 0, .null, .null, .int 0, .null, .null, .null, .int 0]) rfl inlX11 tyX11 tyX11_ok (inr1L _ (by decide +kernel : Cond.classLink RL 10 RX11 ∈ wsL_law_r1)) (inr1L _ (by decide +kernel : Cond.instantiable RX11 21 ∈ wsL_law_r1)) (inr1L _ (by decide +kernel : Cond.initialized RX11 ∈ wsL_law_r1)) dfX11 (Nat.le_of_ble_eq_true rfl) (Nat.le_of_ble_eq_true rfl) dL_law_8 (fun q3 A3 g3 H hq3 hA3 hg3 f3 hW => ?_)
  refine lv_dup X.1 X.2.1 dL_law_11 rfl ?_
  refine x_cI X hW hO hq3 (c_X11_init l E A3 211 H.size g3 210 rfl f3) gL_law_X11_init rfl rfl rfl (inr1L _ (by decide +kernel : Cond.initialized RX11 ∈ wsL_law_r1)) (List.mem_append_left _ (List.mem_append_left _ (List.mem_append_left _ (List.mem_append_left _ (List.mem_append_left _ (List.mem_append_left _ (List.mem_append_left _ (List.mem_append_left _ (List.mem_append_left _ (List.mem_append_left _ (List.mem_append_left _ (List.mem_append_left _ (List.mem_append_left _ (List.mem_append_right _ (List.mem_append_right _ (List.mem_append_right _ (List.mem_append_right _ (List.mem_append_right _ (List.mem_append_right _ (List.mem_append_left _ (by decide +kernel : Cond.methodLink RL 12 yX11_init ∈ wsL_law_r7))))))))))))))))))))) (List.mem_append_left _ (List.mem_append_left _ (List.mem_append_left _ (List.mem_append_left _ (List.mem_append_left _ (List.mem_append_left _ (List.mem_append_left _ (List.mem_append_left _ (List.mem_append_left _ (List.mem_append_left _ (List.mem_append_left _ (List.mem_append_left _ (List.mem_append_left _ (List.mem_append_right _ (List.mem_append_right _ (List.mem_append_right _ (List.mem_append_right _ (List.mem_append_right _ (List.mem_append_right _ (List.mem_append_left _ (by decide +kernel : Cond.instanceMethod yX11_init ∈ wsL_law_r7))))))))))))))))))))) rfl (by decide +kernel) ⟨(Nat.le_of_ble_eq_true rfl), (Nat.le_of_ble_eq_true rfl)⟩ hl.1 (Nat.le_of_ble_eq_true rfl) dL_law_12 ⟨(Nat.le_of_ble_eq_true rfl), (Nat.le_of_ble_eq_true rfl)⟩ (fun A4 g4 H locs hp4 hW => ?_)
  obtain ⟨hA4, hg4, hB4⟩ := hp4
  have hq3 : q3 = A4 210 := hq3.trans (hA4 210 (by omega)).symm
  have hq1 : q1 = A4 0 := hq1.trans ((hA4 0 (by omega)).trans (hA3 0 (by omega))).symm
  have hW : wH E (fun q => s.heap.size ≤ q) A4 227 s g4 H locs := hW
  have hB2 : ClsB E A4 g4 0 := hB2.mv (fun k h1 h2 => (hA4 k (by omega)).trans (hA3 k (by omega))) (fun k h1 h2 => (hg4 k (by omega)).trans (hg3 k (by omega)))
  refine W.widen (k := 227) (n := 42314) (Nat.le_of_ble_eq_true rfl) (Nat.le_of_ble_eq_true rfl) ?_
  refine lv_astore_n (lv' := [(2, .ref q3), (1, .ref q1), (0, .ref b)]) X.1 X.2.1 dL_law_15 rfl hl (by decide) rfl (fun ls hl => ?_)
  subst hq3
  subst hq1
  refine x_iconst X dL_law_16 ?_
  refine lv_istore_n (lv' := [(3, .int (iI 0)), (2, .ref (A4 210)), (1, .ref (A4 0)), (0, .ref b)]) X.1 X.2.1 dL_law_17 rfl hl (by decide) rfl (fun ls hl => ?_)
  refine law_loop X ⟨(Nat.le_of_ble_eq_true rfl), (Nat.le_of_ble_eq_true rfl)⟩ hS ?_ L 0 (by omega) (by omega) g4 H locs ls hW (LI_start hB2 hB4) hl
  intro g' H' locs' ls' hW'
  refine x_iconst X dL_law_915 ?_
  refine va_forget hW'.2.2.1.2.2 ?_
  refine W.widen (k := 600000) (n := 7302250) (Nat.le_of_ble_eq_true rfl) (Nat.le_of_ble_eq_true rfl) ?_
  exact lw_ret hx hb hr hlocks dL_law_916
