section
variable {l : Launch} {cc : ByteArray} {E : wE} {A : Nat → Nat} {n : Nat} {g : Nat → va_E}
theorem x_metF {y : MethodName} {ws ws' : List Cond} {rm : Room} {Qc : Array Value → State → Outcome → State → Prop} {mc ms sz maxL : Nat} {free : Addr → Prop} {ret : Option FieldType} (av : List Value)
    (hy : plainFor y = true) (hw : ws = Cond.code y cc maxL ret :: ws') (hle : (lg_sl av).length ≤ maxL)
    (body : ∀ (p : Program) (e : Env) (s : State) (m : MethodId) (below : List Frame) (meth : Method) (c : Code) (ls : Array Slot), CallFix p m c cc maxL s av.toArray ws y.cls → meth.sig.returnType = ret → meth.locks = false → meth.name = y.name → s.heap.size = sz → wH E (wF A n sz) A n s g s.heap [] → lv_has ls maxL (lv_args 0 av) →
      W p l e rm s m av.toArray below meth c s.heap [] 0 0 (MQ below Qc av.toArray s mc ms free) (F0 m 0 ls [])) : Met l y ws rm (va_Pc av (wPre E A n sz g)) Qc mc ms free := by
  refine va_MetF (cc := cc) (maxL := maxL) (ret := ret) hy hw ?_
  intro p e s m args below meth c s₁ B hml hv
  obtain ⟨rfl, hsz, hP, hK, hD0, hN, hZ⟩ := hv
  have hts := atoms_spec (ws := ws) B.pre
  have hown : s.vm.findClass y.cls = some m.cls := findClass_of_methodNamed B.named
  have hl := lv_entry av (n := maxL) hle
  rw [lg_entry_eq]
  generalize (lg_sl av ++ List.replicate (maxL - (lg_sl av).length) Slot.unset).toArray = ls at hl ⊢
  refine body p e s m below meth c ls ⟨B.exec, B.bytes, hml, hown, hts⟩ B.returns B.notSynchronized (name_of_methodNamed B.named B.method).1 hsz ⟨hP, wF_D hD0, va_S.rf, hK, hN, hZ, fun q hq => Or.inr (by omega)⟩ hl
end
theorem tmod_neg {a b : Int} (ha : a ≤ 0) (h : 0 < b) : a ≤ a.tmod b ∧ a.tmod b ≤ 0 := by
  have e : (-a).tmod b = -(a.tmod b) := Int.neg_tmod ..
  rw [Int.tmod_eq_emod_of_nonneg (by omega)] at e
  have h1 := Int.emod_nonneg (-a) (show b ≠ 0 by omega)
  have h2 := Int.mul_ediv_add_emod (-a) b
  have h3 : 0 ≤ b * ((-a) / b) := Int.mul_nonneg (by omega) (Int.ediv_nonneg (by omega) (by omega))
  omega
theorem tmod_rng {a b : Int} (h : 0 < b) : -b < a.tmod b ∧ a.tmod b < b := by
  have h1 := Int.tmod_lt_of_pos a h
  have h2 := Int.tmod_lt_of_pos (-a) h
  rw [Int.neg_tmod] at h2
  omega

set_option maxHeartbeats 4000000 in
set_option maxRecDepth 100000 in
theorem c_J9_floorDiv_f86c9 (l : Launch) (E : wE) (A : Nat → Nat) (n sz : Nat) (g : Nat → va_E) (a b : Int) (ha : I64 a) (hb : I64 b) (h1 : 0 < b) : Met l yJ9_floorDiv_f86c9 wsJ9_floorDiv_f86c9 ({ frames := 1, cells := 0, slots := 0, locals := 30 } : Room) (va_Pc [.long (lI (a)), .long (lI (b))] (wPre E A n sz g)) (va_Ql (fun r g' => r = lI (a / b) ∧ g' = g) (wAt E A n) (wF A n sz)) 0 0 (wF A n sz) := by
  refine x_metF (cc := cJ9_floorDiv_f86c9) (maxL := 6) (ret := (some .long)) [.long (lI (a)), .long (lI (b))] (by decide +kernel) rfl (Nat.le_of_ble_eq_true rfl) ?_
  intro p e s m below meth c ls X hr hlk hnm hsz hW hl
  have hl : lv_has ls 6 [(0, .long (lI (a))), (2, .long (lI (b)))] := hl
  have htr := tdiv_rng 9223372036854775808 ha.1 ha.2 (show b ≠ -1 by omega) (show b ≠ 0 by omega)
  have hlx := lx_neg ha hb h1
  have hmt := Int.mul_tdiv_add_tmod a b
  have hmr := tmod_rng (a := a) h1
  refine lv_lload_n X.1 X.2.1 dJ9_floorDiv_f86c9_0 rfl (lv_at hl 0 rfl) ?_
  refine lv_lload_n X.1 X.2.1 dJ9_floorDiv_f86c9_1 rfl (lv_at hl 1 rfl) ?_
  refine x_ldivT X ha hb h1 dJ9_floorDiv_f86c9_2 ?_
  refine lv_lstore (lv' := [(4, .long (lI (a.tdiv b))), (0, .long (lI (a))), (2, .long (lI (b)))]) X.1 X.2.1 dJ9_floorDiv_f86c9_3 hl (by decide) rfl (fun ls hl => ?_)
  refine lv_lload_n X.1 X.2.1 dJ9_floorDiv_f86c9_5 rfl (lv_at hl 1 rfl) ?_
  refine lv_lload_n X.1 X.2.1 dJ9_floorDiv_f86c9_6 rfl (lv_at hl 2 rfl) ?_
  refine lv_lxor X.1 X.2.1 dJ9_floorDiv_f86c9_7 ?_
  refine x_topl (lI ((lI a ^^^ lI b).toInt)) (lI_of _) ?_
  refine x_lconst X 0 (by decide) dJ9_floorDiv_f86c9_8 ?_
  refine x_lcmp_ge (tgt := 27) X (I64_of _) I64_0 dJ9_floorDiv_f86c9_9 dJ9_floorDiv_f86c9_10 (by decide) (fun b_9 => ?_) (fun b_9 => ?_)
  · refine lv_lload X.1 X.2.1 dJ9_floorDiv_f86c9_27 (lv_at hl 0 rfl) ?_
    exact x_lret X hr hlk hW (⟨by first | rw [fd_dvd b_18] | rw [Int.tdiv_eq_ediv_of_nonneg (by have := hlx; omega)], rfl⟩) dJ9_floorDiv_f86c9_29
  · refine lv_lload X.1 X.2.1 dJ9_floorDiv_f86c9_13 (lv_at hl 0 rfl) ?_
    refine lv_lload_n X.1 X.2.1 dJ9_floorDiv_f86c9_15 rfl (lv_at hl 2 rfl) ?_
    refine x_lmul X dJ9_floorDiv_f86c9_16 ?_
    refine lv_lload_n X.1 X.2.1 dJ9_floorDiv_f86c9_17 rfl (lv_at hl 1 rfl) ?_
    refine x_lcmp_eq (tgt := 27) X (by have := ha.1; have := tmod_neg (a := a) (by omega) h1; rw [Int.mul_comm] at hmt; exact ⟨by omega, by omega⟩) ha dJ9_floorDiv_f86c9_18 dJ9_floorDiv_f86c9_19 (by decide) (fun b_18 => ?_) (fun b_18 => ?_)
    · refine lv_lload X.1 X.2.1 dJ9_floorDiv_f86c9_27 (lv_at hl 0 rfl) ?_
      exact x_lret X hr hlk hW (⟨by first | rw [fd_dvd b_18] | rw [Int.tdiv_eq_ediv_of_nonneg (by have := hlx; omega)], rfl⟩) dJ9_floorDiv_f86c9_29
    · refine lv_lload X.1 X.2.1 dJ9_floorDiv_f86c9_22 (lv_at hl 0 rfl) ?_
      refine x_lconst X 1 (by decide) dJ9_floorDiv_f86c9_24 ?_
      refine x_lsub X dJ9_floorDiv_f86c9_25 ?_
      exact x_lret X hr hlk hW (⟨by rw [fd_neg h1 (hlx.mp (by omega)) b_18], rfl⟩) dJ9_floorDiv_f86c9_26

set_option maxHeartbeats 4000000 in
set_option maxRecDepth 100000 in
theorem c_J9_floorMod_f86c9 (l : Launch) (E : wE) (A : Nat → Nat) (n sz : Nat) (g : Nat → va_E) (a b : Int) (ha : I64 a) (hb : I64 b) (h1 : 0 < b) : Met l yJ9_floorMod_f86c9 wsJ9_floorMod_f86c9 ({ frames := 1, cells := 0, slots := 0, locals := 30 } : Room) (va_Pc [.long (lI (a)), .long (lI (b))] (wPre E A n sz g)) (va_Ql (fun r g' => r = lI (a % b) ∧ g' = g) (wAt E A n) (wF A n sz)) 0 0 (wF A n sz) := by
  refine x_metF (cc := cJ9_floorMod_f86c9) (maxL := 6) (ret := (some .long)) [.long (lI (a)), .long (lI (b))] (by decide +kernel) rfl (Nat.le_of_ble_eq_true rfl) ?_
  intro p e s m below meth c ls X hr hlk hnm hsz hW hl
  have hl : lv_has ls 6 [(0, .long (lI (a))), (2, .long (lI (b)))] := hl
  have hlx := lx_neg ha hb h1
  have hmr := tmod_rng (a := a) h1
  have hb1 := hb.1
  have hb2 := hb.2
  refine lv_lload_n X.1 X.2.1 dJ9_floorMod_f86c9_0 rfl (lv_at hl 0 rfl) ?_
  refine lv_lload_n X.1 X.2.1 dJ9_floorMod_f86c9_1 rfl (lv_at hl 1 rfl) ?_
  refine x_lremT X ha hb h1 dJ9_floorMod_f86c9_2 ?_
  refine lv_lstore (lv' := [(4, .long (lI (a.tmod b))), (0, .long (lI (a))), (2, .long (lI (b)))]) X.1 X.2.1 dJ9_floorMod_f86c9_3 hl (by decide) rfl (fun ls hl => ?_)
  refine lv_lload_n X.1 X.2.1 dJ9_floorMod_f86c9_5 rfl (lv_at hl 1 rfl) ?_
  refine lv_lload_n X.1 X.2.1 dJ9_floorMod_f86c9_6 rfl (lv_at hl 2 rfl) ?_
  refine lv_lxor X.1 X.2.1 dJ9_floorMod_f86c9_7 ?_
  refine x_topl (lI ((lI a ^^^ lI b).toInt)) (lI_of _) ?_
  refine x_lconst X 0 (by decide) dJ9_floorMod_f86c9_8 ?_
  refine x_lcmp_ge (tgt := 25) X (I64_of _) I64_0 dJ9_floorMod_f86c9_9 dJ9_floorMod_f86c9_10 (by decide) (fun b_9 => ?_) (fun b_9 => ?_)
  · refine lv_lload X.1 X.2.1 dJ9_floorMod_f86c9_25 (lv_at hl 0 rfl) ?_
    exact x_lret X hr hlk hW (⟨by first | rw [fm_dvd b_16] | rw [Int.tmod_eq_emod_of_nonneg (by have := hlx; omega)], rfl⟩) dJ9_floorMod_f86c9_27
  · refine lv_lload X.1 X.2.1 dJ9_floorMod_f86c9_13 (lv_at hl 0 rfl) ?_
    refine x_lconst X 0 (by decide) dJ9_floorMod_f86c9_15 ?_
    refine x_lcmp_eq (tgt := 25) X ⟨by omega, by omega⟩ I64_0 dJ9_floorMod_f86c9_16 dJ9_floorMod_f86c9_17 (by decide) (fun b_16 => ?_) (fun b_16 => ?_)
    · refine lv_lload X.1 X.2.1 dJ9_floorMod_f86c9_25 (lv_at hl 0 rfl) ?_
      exact x_lret X hr hlk hW (⟨by first | rw [fm_dvd b_16] | rw [Int.tmod_eq_emod_of_nonneg (by have := hlx; omega)], rfl⟩) dJ9_floorMod_f86c9_27
    · refine lv_lload X.1 X.2.1 dJ9_floorMod_f86c9_20 (lv_at hl 0 rfl) ?_
      refine lv_lload_n X.1 X.2.1 dJ9_floorMod_f86c9_22 rfl (lv_at hl 2 rfl) ?_
      refine x_ladd X dJ9_floorMod_f86c9_23 ?_
      exact x_lret X hr hlk hW (⟨by rw [fm_neg h1 (hlx.mp (by omega)) b_16], rfl⟩) dJ9_floorMod_f86c9_24

theorem fill_up {N k : Nat} {f : Nat → Int64} {z : Int64} (h : ∀ j, j < k → f j = z) : ∀ j, j < k + 1 → vp_updL f k z j = z := by
  intro j hj
  by_cases e : j = k
  · subst e; exact pk_uLs
  · rw [pk_uLn e]; exact h j (by omega)
theorem fill_upI {N k : Nat} {f : Nat → Int32} {z : Int32} (h : ∀ j, j < k → f j = z) : ∀ j, j < k + 1 → upd f k z j = z := by
  intro j hj
  by_cases e : j = k
  · subst e; exact pk_us
  · rw [pk_un e]; exact h j (by omega)

set_option maxHeartbeats 4000000 in
set_option maxRecDepth 100000 in
theorem c_J7_fill_d0a16 (l : Launch) (E : wE) (A : Nat → Nat) (n sz : Nat) (g : Nat → va_E) (i N : Nat) (fa : Nat → Int64) (z : Int) (hi : i < n) (hN : N < 2147483648) (h0 : g i = aJ E N fa) : Met l yJ7_fill_d0a16 wsJ7_fill_d0a16 ({ frames := 1, cells := 0, slots := 0, locals := 30 } : Room) (va_Pc [.ref (A (i)), .long (lI (z))] (wPre E A n sz g)) (va_Qv (fun g' => (∃ f' : Nat → Int64, g' i = aJ E N f' ∧ ∀ j, j < N → f' j = lI z) ∧ ∀ j, j ≠ i → g' j = g j) (wAt E A n) (wF A n sz)) 0 0 (wF A n sz) := by
  refine x_met (cc := cJ7_fill_d0a16) (maxL := 5) (ret := none) [.ref (A (i)), .long (lI (z))] (by decide) rfl (Nat.le_of_ble_eq_true rfl) ?_
  intro p e s m below meth c ls X hr hlk hnm hsz hW hl
  have hl : lv_has ls 5 [(0, .ref (A (i))), (1, .long (lI (z)))] := hl
  refine x_iconst X dJ7_fill_d0a16_0 ?_
  refine lv_istore_n (lv' := [(3, .int (iI (0))), (0, .ref (A (i))), (1, .long (lI (z)))]) X.1 X.2.1 dJ7_fill_d0a16_1 rfl hl (by decide) rfl (fun ls hl => ?_)
  refine lv_aload_n X.1 X.2.1 dJ7_fill_d0a16_2 rfl (lv_at hl 1 rfl) ?_
  refine x_alen X hW (by omega) h0 rfl dJ7_fill_d0a16_3 ?_
  refine lv_istore (lv' := [(4, .int (iI (((N : Nat) : Int)))), (3, .int (iI (0))), (0, .ref (A (i))), (1, .long (lI (z)))]) X.1 X.2.1 dJ7_fill_d0a16_4 hl (by decide) rfl (fun ls hl => ?_)
  have loop_6 : ∀ (fuel : Nat) (k : Nat) (fa : Nat → Int64) (gw : Nat → va_E) (H : Heap) (locs : List Loc) (ls : Array Slot), (N - k) < fuel → (k ≤ N) → (gw i = aJ E N fa) → (∀ j, j < k → fa j = lI z) → (∀ j, j ≠ i → gw j = g j) → wH E (wF A n sz) A n s gw H locs → lv_has ls 5 [(0, .ref (A (i))), (1, .long (lI (z))), (3, .int (iI ((k : Int)))), (4, .int (iI (((N : Nat) : Int))))] → W p l e ({ frames := 1, cells := 0, slots := 0, locals := 30 } : Room) s m [.ref (A (i)), .long (lI (z))].toArray below meth c H locs 0 0 (MQ below (va_Qv (fun g' => (∃ f' : Nat → Int64, g' i = aJ E N f' ∧ ∀ j, j < N → f' j = lI z) ∧ ∀ j, j ≠ i → g' j = g j) (wAt E A n) (wF A n sz)) [.ref (A (i)), .long (lI (z))].toArray s 0 0 (wF A n sz)) (F0 m 6 ls []) := by
    intro fuel
    induction fuel with
    | zero => intro k fa gw H locs ls hm; exact absurd hm (Nat.not_lt_zero _)
    | succ fuel ih_6 =>
      intro k fa gw H locs ls hm hk h0 hp hfr hW hl
      refine lv_iload_n X.1 X.2.1 dJ7_fill_d0a16_6 rfl (lv_at hl 2 rfl) ?_
      refine lv_iload X.1 X.2.1 dJ7_fill_d0a16_7 (lv_at hl 3 rfl) ?_
      refine x_icmp_ge (tgt := 22) X ⟨by omega, by omega⟩ ⟨by omega, by omega⟩ dJ7_fill_d0a16_9 (by decide) (fun b_9 => ?_) (fun b_9 => ?_)
      · exact x_vret X hr hlk hW (⟨⟨fa, h0, fun j hj => hp j (by omega)⟩, hfr⟩) dJ7_fill_d0a16_22
      · refine lv_aload_n X.1 X.2.1 dJ7_fill_d0a16_12 rfl (lv_at hl 0 rfl) ?_
        refine lv_iload_n X.1 X.2.1 dJ7_fill_d0a16_13 rfl (lv_at hl 2 rfl) ?_
        refine lv_lload_n X.1 X.2.1 dJ7_fill_d0a16_14 rfl (lv_at hl 1 rfl) ?_
        refine x_last X hW (by omega) h0 k (by omega) (by omega) hN dJ7_fill_d0a16_15 (fun g_15 H locs hg_15 hW => ?_)
        have h0 : g_15 i = aJ E N (vp_updL fa k (lI (z))) := by rw [hg_15, va_up_self]
        refine lv_iinc (v := iI (((k + 1 : Nat) : Int))) (lv' := [(3, .int (iI (((k + 1 : Nat) : Int)))), (0, .ref (A (i))), (1, .long (lI (z))), (4, .int (iI (((N : Nat) : Int))))]) X.1 X.2.1 dJ7_fill_d0a16_16 hl (k := 2) rfl (by rw [show (Int32.ofInt (1)) = iI (1) from rfl, iI_add]; rfl) (by decide) rfl (fun ls hl => ?_)
        refine lv_goto (tgt := 6) X.1 X.2.1 dJ7_fill_d0a16_19 (by decide) ?_
        exact ih_6 (k + 1) _ g_15 _ _ _ (by omega) (by omega) h0 (fill_up (N := N) hp) (fun j hj => by rw [hg_15, va_up_ne _ _ hj]; exact hfr j hj) hW (lv_sub hl [1, 2, 0, 3] rfl)
  exact loop_6 _ 0 fa g _ _ _ (Nat.lt_succ_self _) (Nat.zero_le _) h0 (fun j hj => absurd hj (Nat.not_lt_zero _)) (fun _ _ => rfl) hW (lv_sub hl [2, 3, 1, 0] rfl)

set_option maxHeartbeats 4000000 in
set_option maxRecDepth 100000 in
theorem c_J7_fill_53178 (l : Launch) (E : wE) (A : Nat → Nat) (n sz : Nat) (g : Nat → va_E) (i N : Nat) (fa : Nat → Int32) (z : Int) (hi : i < n) (hN : N < 2147483648) (h0 : g i = aI E N fa) : Met l yJ7_fill_53178 wsJ7_fill_53178 ({ frames := 1, cells := 0, slots := 0, locals := 30 } : Room) (va_Pc [.ref (A (i)), .int (iI (z))] (wPre E A n sz g)) (va_Qv (fun g' => (∃ f' : Nat → Int32, g' i = aI E N f' ∧ ∀ j, j < N → f' j = iI z) ∧ ∀ j, j ≠ i → g' j = g j) (wAt E A n) (wF A n sz)) 0 0 (wF A n sz) := by
  refine x_met (cc := cJ7_fill_53178) (maxL := 4) (ret := none) [.ref (A (i)), .int (iI (z))] (by decide) rfl (Nat.le_of_ble_eq_true rfl) ?_
  intro p e s m below meth c ls X hr hlk hnm hsz hW hl
  have hl : lv_has ls 4 [(0, .ref (A (i))), (1, .int (iI (z)))] := hl
  refine x_iconst X dJ7_fill_53178_0 ?_
  refine lv_istore_n (lv' := [(2, .int (iI (0))), (0, .ref (A (i))), (1, .int (iI (z)))]) X.1 X.2.1 dJ7_fill_53178_1 rfl hl (by decide) rfl (fun ls hl => ?_)
  refine lv_aload_n X.1 X.2.1 dJ7_fill_53178_2 rfl (lv_at hl 1 rfl) ?_
  refine x_alen X hW (by omega) h0 rfl dJ7_fill_53178_3 ?_
  refine lv_istore_n (lv' := [(3, .int (iI (((N : Nat) : Int)))), (2, .int (iI (0))), (0, .ref (A (i))), (1, .int (iI (z)))]) X.1 X.2.1 dJ7_fill_53178_4 rfl hl (by decide) rfl (fun ls hl => ?_)
  have loop_5 : ∀ (fuel : Nat) (k : Nat) (fa : Nat → Int32) (gw : Nat → va_E) (H : Heap) (locs : List Loc) (ls : Array Slot), (N - k) < fuel → (k ≤ N) → (gw i = aI E N fa) → (∀ j, j < k → fa j = iI z) → (∀ j, j ≠ i → gw j = g j) → wH E (wF A n sz) A n s gw H locs → lv_has ls 4 [(0, .ref (A (i))), (1, .int (iI (z))), (2, .int (iI ((k : Int)))), (3, .int (iI (((N : Nat) : Int))))] → W p l e ({ frames := 1, cells := 0, slots := 0, locals := 30 } : Room) s m [.ref (A (i)), .int (iI (z))].toArray below meth c H locs 0 0 (MQ below (va_Qv (fun g' => (∃ f' : Nat → Int32, g' i = aI E N f' ∧ ∀ j, j < N → f' j = iI z) ∧ ∀ j, j ≠ i → g' j = g j) (wAt E A n) (wF A n sz)) [.ref (A (i)), .int (iI (z))].toArray s 0 0 (wF A n sz)) (F0 m 5 ls []) := by
    intro fuel
    induction fuel with
    | zero => intro k fa gw H locs ls hm; exact absurd hm (Nat.not_lt_zero _)
    | succ fuel ih_5 =>
      intro k fa gw H locs ls hm hk h0 hp hfr hW hl
      refine lv_iload_n X.1 X.2.1 dJ7_fill_53178_5 rfl (lv_at hl 2 rfl) ?_
      refine lv_iload_n X.1 X.2.1 dJ7_fill_53178_6 rfl (lv_at hl 3 rfl) ?_
      refine x_icmp_ge (tgt := 20) X ⟨by omega, by omega⟩ ⟨by omega, by omega⟩ dJ7_fill_53178_7 (by decide) (fun b_7 => ?_) (fun b_7 => ?_)
      · exact x_vret X hr hlk hW (⟨⟨fa, h0, fun j hj => hp j (by omega)⟩, hfr⟩) dJ7_fill_53178_20
      · refine lv_aload_n X.1 X.2.1 dJ7_fill_53178_10 rfl (lv_at hl 0 rfl) ?_
        refine lv_iload_n X.1 X.2.1 dJ7_fill_53178_11 rfl (lv_at hl 2 rfl) ?_
        refine lv_iload_n X.1 X.2.1 dJ7_fill_53178_12 rfl (lv_at hl 1 rfl) ?_
        refine x_iast X hW (by omega) h0 k (by omega) (by omega) hN dJ7_fill_53178_13 (fun g_13 H locs hg_13 hW => ?_)
        have h0 : g_13 i = aI E N (upd fa k (iI (z))) := by rw [hg_13, va_up_self]
        refine lv_iinc (v := iI (((k + 1 : Nat) : Int))) (lv' := [(2, .int (iI (((k + 1 : Nat) : Int)))), (0, .ref (A (i))), (1, .int (iI (z))), (3, .int (iI (((N : Nat) : Int))))]) X.1 X.2.1 dJ7_fill_53178_14 hl (k := 2) rfl (by rw [show (Int32.ofInt (1)) = iI (1) from rfl, iI_add]; rfl) (by decide) rfl (fun ls hl => ?_)
        refine lv_goto (tgt := 5) X.1 X.2.1 dJ7_fill_53178_17 (by decide) ?_
        exact ih_5 (k + 1) _ g_13 _ _ _ (by omega) (by omega) h0 (fill_upI (N := N) hp) (fun j hj => by rw [hg_13, va_up_ne _ _ hj]; exact hfr j hj) hW (lv_sub hl [1, 2, 0, 3] rfl)
  exact loop_5 _ 0 fa g _ _ _ (Nat.lt_succ_self _) (Nat.zero_le _) h0 (fun j hj => absurd hj (Nat.not_lt_zero _)) (fun _ _ => rfl) hW (lv_sub hl [2, 3, 1, 0] rfl)

def dq (v k : Nat) : Nat := v / 1000000000 ^ k
/-- some Natural -/
def NatX (E : wE) (A : Nat → Nat) (g : Nat → va_E) (i : Nat) : Prop := g i = .inr (5, [.ref (A (i + 1))]) ∧ ∃ p : Nat → Int32, g (i + 1) = aI E 6 p
theorem NatV.any {E : wE} {A : Nat → Nat} {g : Nat → va_E} {i v : Nat} (h : NatV E A g i v) : NatX E A g i := by
  obtain ⟨_, b, p, c, _⟩ := h
  exact ⟨b, p, c⟩
theorem NatX.frame {E : wE} {A : Nat → Nat} {g g' : Nat → va_E} {i : Nat} (h : NatX E A g i) (h1 : g' i = g i) (h2 : g' (i + 1) = g (i + 1)) : NatX E A g' i := by
  obtain ⟨b, p, c⟩ := h
  exact ⟨by rw [h1]; exact b, p, by rw [h2]; exact c⟩
theorem pt_up {pa : Nat → Int32} {v k : Nat} (hp : ∀ j, j < k → pa j = iI ((dg v j : Nat) : Int)) : ∀ j, j < k + 1 → upd pa k (iI ((dg v k : Nat) : Int)) j = iI ((dg v j : Nat) : Int) := by
  intro j hj
  by_cases h : j = k
  · subst h; exact pk_us
  · rw [pk_un h]; exact hp j (by omega)

set_option maxHeartbeats 4000000 in
set_option maxRecDepth 100000 in
/-- put -/
theorem c_X5_put (l : Launch) (E : wE) (A : Nat → Nat) (n sz : Nat) (g : Nat → va_E) (i v : Nat) (hi : i + 1 < n) (hN : NatX E A g i) (hv : v < 9223372036854775808) : Met l yX5_put wsX5_put ({ frames := 1, cells := 0, slots := 0, locals := 60 } : Room) (va_Pc [.ref (A (i)), .long (lI ((v : Int)))] (wPre E A n sz g)) (va_Qv (fun g' => NatV E A g' i v ∧ ∀ j, j ≠ i + 1 → g' j = g j) (wAt E A n) (wF A n sz)) 0 0 (wF A n sz) := by
  refine x_met (cc := cX5_put) (maxL := 6) (ret := none) [.ref (A (i)), .long (lI ((v : Int)))] (by decide) rfl (Nat.le_of_ble_eq_true rfl) ?_
  intro p e s m below meth c ls X hr hlk hnm hsz hW hl
  have hl : lv_has ls 6 [(0, .ref (A (i))), (1, .long (lI ((v : Int))))] := hl
  have lk_0 : Cond.methodLink RX5 13 Lib.MathLoose.max_long.x ∈ wsX5_put := by decide +kernel
  have lk_1 : Cond.static Lib.MathLoose.max_long.x ∈ wsX5_put := by decide +kernel
  have lk_2 : Cond.initialized "java/lang/Math" ∈ wsX5_put := by decide +kernel
  have lk_3 : Cond.code Lib.MathLoose.max_long.x Lib.MathLoose.max_long.code 4 (some .long) ∈ wsX5_put := by decide +kernel
  have lk_4 : ∀ w ∈ wsX50, w ∈ wsX5_put := by decide +kernel
  have lk_5 : Cond.fieldLink RX5 9 (TX5 0).1 (TX5 0).2.1 (TX5 0).2.2.1 ∈ wsX5_put := by decide +kernel
  have lk_6 : Cond.constantLong RX5 19 (1000000000) ∈ wsX5_put := by decide +kernel
  obtain ⟨h0, pa, h1⟩ := hN
  refine x_lconst X 0 (by decide) dX5_put_0 ?_
  refine lv_lload_n X.1 X.2.1 dX5_put_1 rfl (lv_at hl 1 rfl) ?_
  refine x_mmaxl X hl.1 I64_0 ⟨by omega, by omega⟩ lk_0 lk_1 lk_2 lk_3 (by decide) (by decide) (Nat.zero_le _) (Nat.zero_le _) dX5_put_2 ?_
  refine x_setl (((dq v 0 : Nat) : Int)) (by unfold dq; rw [Nat.pow_zero, Nat.div_one, if_neg (by omega)]) ?_
  refine lv_lstore_n (lv' := [(3, .long (lI (((dq v 0 : Nat) : Int)))), (0, .ref (A (i))), (1, .long (lI ((v : Int))))]) X.1 X.2.1 dX5_put_5 rfl hl (by decide) rfl (fun ls hl => ?_)
  refine x_iconst X dX5_put_6 ?_
  refine lv_istore (lv' := [(5, .int (iI (0))), (3, .long (lI (((dq v 0 : Nat) : Int)))), (0, .ref (A (i))), (1, .long (lI ((v : Int))))]) X.1 X.2.1 dX5_put_7 hl (by decide) rfl (fun ls hl => ?_)
  have loop_9 : ∀ (fuel : Nat) (k : Nat) (pa : Nat → Int32) (gw : Nat → va_E) (H : Heap) (locs : List Loc) (ls : Array Slot), (6 - k) < fuel → (k ≤ 6) → (gw i = .inr (5, [.ref (A (i + 1))])) → (gw (i + 1) = aI E 6 pa) → (∀ j, j < k → pa j = iI ((dg v j : Nat) : Int)) → (∀ j, j ≠ i + 1 → gw j = g j) → wH E (wF A n sz) A n s gw H locs → lv_has ls 6 [(0, .ref (A (i))), (3, .long (lI (((dq v k : Nat) : Int)))), (5, .int (iI ((k : Int))))] → W p l e ({ frames := 1, cells := 0, slots := 0, locals := 60 } : Room) s m [.ref (A (i)), .long (lI ((v : Int)))].toArray below meth c H locs 0 0 (MQ below (va_Qv (fun g' => NatV E A g' i v ∧ ∀ j, j ≠ i + 1 → g' j = g j) (wAt E A n) (wF A n sz)) [.ref (A (i)), .long (lI ((v : Int)))].toArray s 0 0 (wF A n sz)) (F0 m 9 ls []) := by
    intro fuel
    induction fuel with
    | zero => intro k pa gw H locs ls hm; exact absurd hm (Nat.not_lt_zero _)
    | succ fuel ih_9 =>
      intro k pa gw H locs ls hm hk h0 h1 hp hfr hW hl
      have hle : dq v k ≤ v := Nat.div_le_self _ _
      refine lv_iload X.1 X.2.1 dX5_put_9 (lv_at hl 2 rfl) ?_
      refine x_bipush X (by decide) dX5_put_11 ?_
      refine x_icmp_ge (tgt := 41) X ⟨by omega, by omega⟩ ⟨by decide, by decide⟩ dX5_put_13 (by decide) (fun b_13 => ?_) (fun b_13 => ?_)
      · exact x_vret X hr hlk hW (⟨⟨by omega, h0, pa, h1, fun j hj => hp j (by omega)⟩, hfr⟩) dX5_put_41
      · refine lv_aload_n X.1 X.2.1 dX5_put_16 rfl (lv_at hl 0 rfl) ?_
        refine x_get (C := RX5) (T := TX5) (N := 1) X hW (by omega) h0 rfl lk_4 0 (by decide) lk_5 rfl dX5_put_17 ?_
        refine lv_iload X.1 X.2.1 dX5_put_20 (lv_at hl 2 rfl) ?_
        refine lv_lload_n X.1 X.2.1 dX5_put_22 rfl (lv_at hl 1 rfl) ?_
        refine x_ldc2 X (1000000000) (by decide) lk_6 dX5_put_23 ?_
        refine x_lrem X ⟨by omega, by omega⟩ ⟨by decide, by decide⟩ (by omega) (by decide) dX5_put_26 ?_
        refine x_setl (((dg v k : Nat) : Int)) (by show _ = ((dq v k % 1000000000 : Nat) : Int); omega) ?_
        refine x_l2i X dX5_put_27 ?_
        refine x_iast X hW (by omega) h1 k (by omega) (by omega) (by decide) dX5_put_28 (fun g_28 H locs hg_28 hW => ?_)
        have h0 : g_28 i = .inr (5, [.ref (A (i + 1))]) := by rw [hg_28, va_up_ne _ _ (by omega)]; exact h0
        have h1 : g_28 (i + 1) = aI E 6 (upd pa k (iI (((dg v k : Nat) : Int)))) := by rw [hg_28, va_up_self]
        refine lv_lload_n X.1 X.2.1 dX5_put_29 rfl (lv_at hl 1 rfl) ?_
        refine x_ldc2 X (1000000000) (by decide) lk_6 dX5_put_30 ?_
        refine x_ldiv X ⟨by omega, by omega⟩ ⟨by decide, by decide⟩ (by omega) (by decide) dX5_put_33 ?_
        refine x_setl (((dq v (k + 1) : Nat) : Int)) (by rw [show dq v (k + 1) = dq v k / 1000000000 from by unfold dq; rw [Nat.pow_succ, ← Nat.div_div_eq_div_mul]]; omega) ?_
        refine lv_lstore_n (lv' := [(3, .long (lI (((dq v (k + 1) : Nat) : Int)))), (0, .ref (A (i))), (5, .int (iI ((k : Int))))]) X.1 X.2.1 dX5_put_34 rfl hl (by decide) rfl (fun ls hl => ?_)
        refine lv_iinc (v := iI (((k + 1 : Nat) : Int))) (lv' := [(5, .int (iI (((k + 1 : Nat) : Int)))), (3, .long (lI (((dq v (k + 1) : Nat) : Int)))), (0, .ref (A (i)))]) X.1 X.2.1 dX5_put_35 hl (k := 2) rfl (by rw [show (Int32.ofInt (1)) = iI (1) from rfl, iI_add]; rfl) (by decide) rfl (fun ls hl => ?_)
        refine lv_goto (tgt := 9) X.1 X.2.1 dX5_put_38 (by decide) ?_
        exact ih_9 (k + 1) _ g_28 _ _ _ (by omega) (by omega) h0 h1 (pt_up hp) (fun j hj => by rw [hg_28, va_up_ne _ _ hj]; exact hfr j hj) hW (lv_sub hl [2, 1, 0] rfl)
  exact loop_9 _ 0 pa g _ _ _ (Nat.lt_succ_self _) (by omega) h0 h1 (fun j hj => absurd hj (Nat.not_lt_zero _)) (fun _ _ => rfl) hW (lv_sub hl [2, 1, 0] rfl)

set_option maxHeartbeats 4000000 in
set_option maxRecDepth 100000 in
/-- copy -/
theorem c_X5_copy (l : Launch) (E : wE) (A : Nat → Nat) (n sz : Nat) (g : Nat → va_E) (i j0 w : Nat) (hi : i + 1 < n) (hj : j0 + 1 < n) (hij : i ≠ j0) (hA1 : i ≠ j0 + 1) (hA2 : j0 ≠ i + 1) (hN : NatX E A g i) (hM : NatV E A g j0 w) : Met l yX5_copy wsX5_copy ({ frames := 1, cells := 0, slots := 0, locals := 60 } : Room) (va_Pc [.ref (A (i)), .ref (A (j0))] (wPre E A n sz g)) (va_Qv (fun g' => NatV E A g' i w ∧ ∀ j, j ≠ i + 1 → g' j = g j) (wAt E A n) (wF A n sz)) 0 0 (wF A n sz) := by
  refine x_met (cc := cX5_copy) (maxL := 2) (ret := none) [.ref (A (i)), .ref (A (j0))] (by decide) rfl (Nat.le_of_ble_eq_true rfl) ?_
  intro p e s m below meth c ls X hr hlk hnm hsz hW hl
  have hl : lv_has ls 2 [(0, .ref (A (i))), (1, .ref (A (j0)))] := hl
  have lk_0 : ∀ w ∈ wsX50, w ∈ wsX5_copy := by decide +kernel
  have lk_1 : Cond.fieldLink RX5 9 (TX5 0).1 (TX5 0).2.1 (TX5 0).2.2.1 ∈ wsX5_copy := by decide +kernel
  have lk_2 : Cond.methodLink RX5 21 arraycopyName ∈ wsX5_copy := by decide +kernel
  have lk_3 : Cond.native arraycopyName ∈ wsX5_copy := by decide +kernel
  have lk_4 : Cond.static arraycopyName ∈ wsX5_copy := by decide +kernel
  have lk_5 : Cond.initialized "java/lang/System" ∈ wsX5_copy := by decide +kernel
  obtain ⟨h0, pa, h1⟩ := hN
  obtain ⟨hlu, k0, qa, k1, hq⟩ := hM
  refine lv_aload_n X.1 X.2.1 dX5_copy_0 rfl (lv_at hl 1 rfl) ?_
  refine x_get (C := RX5) (T := TX5) (N := 1) X hW (by omega) k0 rfl lk_0 0 (by decide) lk_1 rfl dX5_copy_1 ?_
  refine x_iconst X dX5_copy_4 ?_
  refine lv_aload_n X.1 X.2.1 dX5_copy_5 rfl (lv_at hl 0 rfl) ?_
  refine x_get (C := RX5) (T := TX5) (N := 1) X hW (by omega) h0 rfl lk_0 0 (by decide) lk_1 rfl dX5_copy_6 ?_
  refine x_iconst X dX5_copy_9 ?_
  refine x_bipush X (by decide) dX5_copy_10 ?_
  refine x_copy6 X hW hl.1 (by omega) (by omega) k1 h1 lk_2 lk_3 lk_4 lk_5 (by decide) (by decide) dX5_copy_12 (fun g_12 H locs hg_12 hW => ?_)
  have h0 : g_12 i = .inr (5, [.ref (A (i + 1))]) := by rw [hg_12, va_up_ne _ _ (by omega)]; exact h0
  have k0 : g_12 j0 = .inr (5, [.ref (A (j0 + 1))]) := by rw [hg_12, va_up_ne _ _ (by omega)]; exact k0
  have k1 : g_12 (j0 + 1) = aI E 6 qa := by rw [hg_12, va_up_ne _ _ (by omega)]; exact k1
  have h1 : g_12 (i + 1) = aI E 6 (va_cpy qa pa 0 0 6) := by rw [hg_12, va_up_self]
  exact x_vret X hr hlk hW (⟨⟨hlu, h0, _, h1, fun j hj => by rw [pk_cpy_in (Nat.zero_le _) (by omega), Nat.zero_add, Nat.sub_zero]; exact hq j hj⟩, fun j hj => by rw [hg_12, va_up_ne _ _ hj]⟩) dX5_copy_15

theorem tk_lim (u w f : Nat) (k : Nat) : ps (fun j => ((dg u j : Nat) : Int) - ((dg w j : Nat) : Int) * (f : Int)) k = ((u % 1000000000 ^ k : Nat) : Int) - ((w % 1000000000 ^ k : Nat) : Int) * (f : Int) := by
  induction k with
  | zero => show (0 : Int) = _; rw [Nat.pow_zero, Nat.mod_one, Nat.mod_one]; simp
  | succ k ih =>
    show ps _ k + _ * 1000000000 ^ k = _
    rw [ih, mod_pow_succ', mod_pow_succ']
    have e : ((1000000000 ^ k : Nat) : Int) = (1000000000 : Int) ^ k := by rw [Int.natCast_pow]; rfl
    rw [← e, Int.natCast_add, Int.natCast_add, Int.natCast_mul, Int.natCast_mul, Int.add_mul, Int.sub_mul]
    have e1 : ((1000000000 ^ k : Nat) : Int) * ((dg u k : Nat) : Int) = ((dg u k : Nat) : Int) * ((1000000000 ^ k : Nat) : Int) := Int.mul_comm _ _
    have e2 : ((1000000000 ^ k : Nat) : Int) * ((dg w k : Nat) : Int) * (f : Int) = ((dg w k : Nat) : Int) * (f : Int) * ((1000000000 ^ k : Nat) : Int) := by rw [Int.mul_comm ((1000000000 ^ k : Nat) : Int), Int.mul_assoc, Int.mul_assoc, Int.mul_comm (f : Int)]
    rw [e1, e2]
    omega
def tkX (u w f : Nat) (j : Nat) : Int := ((dg u j : Nat) : Int) - ((dg w j : Nat) : Int) * (f : Int)
theorem tk_val {u w f : Nat} (hu : u < 10 ^ 54) (hw : w < 10 ^ 54) (h : w * f ≤ u) : ps (tkX u w f) 6 = ((u - w * f : Nat) : Int) := by
  have := tk_lim u w f 6
  rw [Nat.mod_eq_of_lt (by omega), Nat.mod_eq_of_lt (by omega)] at this
  rw [show tkX u w f = _ from rfl]
  show ps (fun j => ((dg u j : Nat) : Int) - ((dg w j : Nat) : Int) * (f : Int)) 6 = _
  rw [this, Int.natCast_sub h, Int.natCast_mul]
theorem tk_rng {u w f : Nat} (hf : f ≤ 2147483648) (j : Nat) : -2147483648000000000 ≤ tkX u w f j ∧ tkX u w f j ≤ 2147483648000000000 := by
  have h1 := dg_lt u j
  have h2 : dg w j * f ≤ 999999999 * f := Nat.mul_le_mul_right f (by have := dg_lt w j; omega)
  have e : ((dg w j : Nat) : Int) * (f : Int) = ((dg w j * f : Nat) : Int) := (Int.natCast_mul _ _).symm
  unfold tkX
  rw [e]
  omega
theorem tk_dig {u w f k : Nat} (hu : u < 10 ^ 54) (hw : w < 10 ^ 54) (h : w * f ≤ u) (hk : k < 6) : (ps (tkX u w f) k / 1000000000 ^ k + tkX u w f k) % 1000000000 = ((dg (u - w * f) k : Nat) : Int) := by
  rw [ps_dig _ hk, tk_val hu hw h]
  unfold dg
  rw [Int.natCast_emod, Int.natCast_ediv, Int.natCast_pow]
  rfl

set_option maxHeartbeats 4000000 in
set_option maxRecDepth 100000 in
/-- takeTimes -/
theorem c_X5_takeTimes (l : Launch) (E : wE) (A : Nat → Nat) (n sz : Nat) (g : Nat → va_E) (i j0 u w f : Nat) (hi : i + 1 < n) (hj : j0 + 1 < n) (hij : i ≠ j0 + 1) (hji : j0 ≠ i + 1) (hne : i ≠ j0) (hN : NatV E A g i u) (hM : NatV E A g j0 w) (hf : f ≤ 2147483648) (hvf : w * f ≤ u) : Met l yX5_takeTimes wsX5_takeTimes ({ frames := 2, cells := 0, slots := 0, locals := 60 } : Room) (va_Pc [.ref (A (i)), .ref (A (j0)), .long (lI ((f : Int)))] (wPre E A n sz g)) (va_Qv (fun g' => NatV E A g' i (u - w * f) ∧ ∀ j, j ≠ i + 1 → g' j = g j) (wAt E A n) (wF A n sz)) 0 0 (wF A n sz) := by
  refine x_met (cc := cX5_takeTimes) (maxL := 7) (ret := none) [.ref (A (i)), .ref (A (j0)), .long (lI ((f : Int)))] (by decide) rfl (Nat.le_of_ble_eq_true rfl) ?_
  intro p e s m below meth c ls X hr hlk hnm hsz hW hl
  have hl : lv_has ls 7 [(0, .ref (A (i))), (1, .ref (A (j0))), (2, .long (lI ((f : Int))))] := hl
  have lk_0 : ∀ w ∈ wsX50, w ∈ wsX5_takeTimes := by decide +kernel
  have lk_1 : Cond.fieldLink RX5 9 (TX5 0).1 (TX5 0).2.1 (TX5 0).2.2.1 ∈ wsX5_takeTimes := by decide +kernel
  have lk_2 : Cond.constantLong RX5 19 (1000000000) ∈ wsX5_takeTimes := by decide +kernel
  obtain ⟨hlt, h0, pa, h1, hp⟩ := hN
  obtain ⟨hlu, k0, qa, k1, hq⟩ := hM
  refine x_lconst X 0 (by decide) dX5_takeTimes_0 ?_
  refine x_setl (ps (tkX u w f) 0 / 1000000000 ^ 0) rfl ?_
  refine lv_lstore (lv' := [(4, .long (lI (ps (tkX u w f) 0 / 1000000000 ^ 0))), (0, .ref (A (i))), (1, .ref (A (j0))), (2, .long (lI ((f : Int))))]) X.1 X.2.1 dX5_takeTimes_1 hl (by decide) rfl (fun ls hl => ?_)
  refine x_iconst X dX5_takeTimes_3 ?_
  refine lv_istore (lv' := [(6, .int (iI (0))), (4, .long (lI (ps (tkX u w f) 0 / 1000000000 ^ 0))), (0, .ref (A (i))), (1, .ref (A (j0))), (2, .long (lI ((f : Int))))]) X.1 X.2.1 dX5_takeTimes_4 hl (by decide) rfl (fun ls hl => ?_)
  have loop_6 : ∀ (fuel : Nat) (k : Nat) (pa : Nat → Int32) (gw : Nat → va_E) (H : Heap) (locs : List Loc) (ls : Array Slot), (6 - k) < fuel → (k ≤ 6) → (gw (i + 1) = aI E 6 pa) → (∀ j, j < 6 → pa j = iI ((if j < k then dg (u - w * f) j else dg u j : Nat) : Int)) → (∀ j, j ≠ i + 1 → gw j = g j) → wH E (wF A n sz) A n s gw H locs → lv_has ls 7 [(0, .ref (A (i))), (1, .ref (A (j0))), (2, .long (lI ((f : Int)))), (4, .long (lI (ps (tkX u w f) k / 1000000000 ^ k))), (6, .int (iI ((k : Int))))] → W p l e ({ frames := 2, cells := 0, slots := 0, locals := 60 } : Room) s m [.ref (A (i)), .ref (A (j0)), .long (lI ((f : Int)))].toArray below meth c H locs 0 0 (MQ below (va_Qv (fun g' => NatV E A g' i (u - w * f) ∧ ∀ j, j ≠ i + 1 → g' j = g j) (wAt E A n) (wF A n sz)) [.ref (A (i)), .ref (A (j0)), .long (lI ((f : Int)))].toArray s 0 0 (wF A n sz)) (F0 m 6 ls []) := by
    intro fuel
    induction fuel with
    | zero => intro k pa gw H locs ls hm; exact absurd hm (Nat.not_lt_zero _)
    | succ fuel ih_6 =>
      intro k pa gw H locs ls hm hk h1 hp hfr hW hl
      have h0 : gw i = .inr (5, [.ref (A (i + 1))]) := (hfr _ (by omega)).trans h0
      have k0 : gw j0 = .inr (5, [.ref (A (j0 + 1))]) := (hfr _ (by omega)).trans k0
      have k1 : gw (j0 + 1) = aI E 6 qa := (hfr _ (by omega)).trans k1
      refine lv_iload X.1 X.2.1 dX5_takeTimes_6 (lv_at hl 4 rfl) ?_
      refine x_bipush X (by decide) dX5_takeTimes_8 ?_
      refine x_icmp_ge (tgt := 69) X ⟨by omega, by omega⟩ ⟨by decide, by decide⟩ dX5_takeTimes_10 (by decide) (fun b_10 => ?_) (fun b_10 => ?_)
      · exact x_vret X hr hlk hW (⟨⟨Nat.lt_of_le_of_lt (Nat.sub_le _ _) hlt, h0, pa, h1, fun j hj => by rw [hp j hj, if_pos (by omega)]⟩, hfr⟩) dX5_takeTimes_69
      · have hk9 : k < 6 := by omega
        have hr1 := tk_rng (u := u) (w := w) hf k
        have hr2 := ps_bound (x := tkX u w f) (M := 2147483648000000000) (by decide) k (fun j _ => tk_rng hf j)
        refine lv_lload X.1 X.2.1 dX5_takeTimes_13 (lv_at hl 3 rfl) ?_
        refine lv_aload_n X.1 X.2.1 dX5_takeTimes_15 rfl (lv_at hl 0 rfl) ?_
        refine x_get (C := RX5) (T := TX5) (N := 1) X hW (by omega) h0 rfl lk_0 0 (by decide) lk_1 rfl dX5_takeTimes_16 ?_
        refine lv_iload X.1 X.2.1 dX5_takeTimes_19 (lv_at hl 4 rfl) ?_
        refine x_iald X hW (by omega) h1 (v := iI (((dg u k : Nat) : Int))) k (by omega) (by omega) (by decide) (by rw [hp k hk9, if_neg (by omega)]) dX5_takeTimes_21 ?_
        refine x_i2l X ⟨by have := dg_lt u k; omega, by have := dg_lt u k; omega⟩ dX5_takeTimes_22 ?_
        refine lv_aload_n X.1 X.2.1 dX5_takeTimes_23 rfl (lv_at hl 1 rfl) ?_
        refine x_get (C := RX5) (T := TX5) (N := 1) X hW (by omega) k0 rfl lk_0 0 (by decide) lk_1 rfl dX5_takeTimes_24 ?_
        refine lv_iload X.1 X.2.1 dX5_takeTimes_27 (lv_at hl 4 rfl) ?_
        refine x_iald X hW (by omega) k1 (v := iI (((dg w k : Nat) : Int))) k (by omega) (by omega) (by decide) (hq k hk9) dX5_takeTimes_29 ?_
        refine x_i2l X ⟨by have := dg_lt w k; omega, by have := dg_lt w k; omega⟩ dX5_takeTimes_30 ?_
        refine lv_lload_n X.1 X.2.1 dX5_takeTimes_31 rfl (lv_at hl 2 rfl) ?_
        refine x_lmul X dX5_takeTimes_32 ?_
        refine x_lsub X dX5_takeTimes_33 ?_
        refine x_ladd X dX5_takeTimes_34 ?_
        refine x_setl (ps (tkX u w f) k / 1000000000 ^ k + tkX u w f k) rfl ?_
        refine lv_lstore (lv' := [(4, .long (lI (ps (tkX u w f) k / 1000000000 ^ k + tkX u w f k))), (0, .ref (A (i))), (1, .ref (A (j0))), (2, .long (lI ((f : Int)))), (6, .int (iI ((k : Int))))]) X.1 X.2.1 dX5_takeTimes_35 hl (by decide) rfl (fun ls hl => ?_)
        refine lv_aload_n X.1 X.2.1 dX5_takeTimes_37 rfl (lv_at hl 1 rfl) ?_
        refine x_get (C := RX5) (T := TX5) (N := 1) X hW (by omega) h0 rfl lk_0 0 (by decide) lk_1 rfl dX5_takeTimes_38 ?_
        refine lv_iload X.1 X.2.1 dX5_takeTimes_41 (lv_at hl 4 rfl) ?_
        refine lv_lload X.1 X.2.1 dX5_takeTimes_43 (lv_at hl 0 rfl) ?_
        refine x_ldc2 X (1000000000) (by decide) lk_2 dX5_takeTimes_45 ?_
        refine x_cl (x_runS (k := 2) (As := [.long (lI (ps (tkX u w f) k / 1000000000 ^ k + tkX u w f k)), .long (lI (1000000000))]) (rest := [.int (iI ((k : Int))), .ref (A (i + 1))]) X hW (c_J9_floorMod_f86c9 l E A n _ gw (ps (tkX u w f) k / 1000000000 ^ k + tkX u w f k) 1000000000 ⟨by omega, by omega⟩ ⟨by decide, by decide⟩ (by decide)) gX5_takeTimes_J9_floorMod_f86c9 rfl rfl rfl (by decide +kernel) ⟨by decide, by decide⟩ rfl hl.1 rfl (Nat.le_of_ble_eq_true rfl) dX5_takeTimes_48 ⟨Nat.zero_le _, Nat.zero_le _⟩) hW (fun r_48 g_48 H locs hp_48 hW => ?_)
        obtain ⟨hr_48, he_48⟩ := hp_48
        rw [he_48] at hW
        subst hr_48
        refine x_setl (((dg (u - w * f) k : Nat) : Int)) (tk_dig hlt hlu hvf hk9) ?_
        refine x_l2i X dX5_takeTimes_51 ?_
        refine x_iast X hW (by omega) h1 k (by omega) (by omega) (by decide) dX5_takeTimes_52 (fun g_52 H locs hg_52 hW => ?_)
        have h0 : g_52 i = .inr (5, [.ref (A (i + 1))]) := by rw [hg_52, va_up_ne _ _ (by omega)]; exact h0
        have k0 : g_52 j0 = .inr (5, [.ref (A (j0 + 1))]) := by rw [hg_52, va_up_ne _ _ (by omega)]; exact k0
        have k1 : g_52 (j0 + 1) = aI E 6 qa := by rw [hg_52, va_up_ne _ _ (by omega)]; exact k1
        have h1 : g_52 (i + 1) = aI E 6 (upd pa k (iI (((dg (u - w * f) k : Nat) : Int)))) := by rw [hg_52, va_up_self]
        refine lv_lload X.1 X.2.1 dX5_takeTimes_53 (lv_at hl 0 rfl) ?_
        refine x_ldc2 X (1000000000) (by decide) lk_2 dX5_takeTimes_55 ?_
        refine x_cl (x_runS (k := 2) (As := [.long (lI (ps (tkX u w f) k / 1000000000 ^ k + tkX u w f k)), .long (lI (1000000000))]) (rest := []) X hW (c_J9_floorDiv_f86c9 l E A n _ g_52 (ps (tkX u w f) k / 1000000000 ^ k + tkX u w f k) 1000000000 ⟨by omega, by omega⟩ ⟨by decide, by decide⟩ (by decide)) gX5_takeTimes_J9_floorDiv_f86c9 rfl rfl rfl (by decide +kernel) ⟨by decide, by decide⟩ rfl hl.1 rfl (Nat.le_of_ble_eq_true rfl) dX5_takeTimes_58 ⟨Nat.zero_le _, Nat.zero_le _⟩) hW (fun r_58 g_58 H locs hp_58 hW => ?_)
        obtain ⟨hr_58, he_58⟩ := hp_58
        rw [he_58] at hW
        subst hr_58
        refine x_setl (ps (tkX u w f) (k + 1) / 1000000000 ^ (k + 1)) (ps_next _ _) ?_
        refine lv_lstore (lv' := [(4, .long (lI (ps (tkX u w f) (k + 1) / 1000000000 ^ (k + 1)))), (0, .ref (A (i))), (1, .ref (A (j0))), (2, .long (lI ((f : Int)))), (6, .int (iI ((k : Int))))]) X.1 X.2.1 dX5_takeTimes_61 hl (by decide) rfl (fun ls hl => ?_)
        refine lv_iinc (v := iI (((k + 1 : Nat) : Int))) (lv' := [(6, .int (iI (((k + 1 : Nat) : Int)))), (4, .long (lI (ps (tkX u w f) (k + 1) / 1000000000 ^ (k + 1)))), (0, .ref (A (i))), (1, .ref (A (j0))), (2, .long (lI ((f : Int))))]) X.1 X.2.1 dX5_takeTimes_63 hl (k := 4) rfl (by rw [show (Int32.ofInt (1)) = iI (1) from rfl, iI_add]; rfl) (by decide) rfl (fun ls hl => ?_)
        refine lv_goto (tgt := 6) X.1 X.2.1 dX5_takeTimes_66 (by decide) ?_
        exact ih_6 (k + 1) _ g_52 _ _ _ (by omega) (by omega) h1 (tm_up hp hk9) (fun j hj => by rw [hg_52, va_up_ne _ _ hj]; exact hfr j hj) hW (lv_sub hl [2, 3, 4, 1, 0] rfl)
  exact loop_6 _ 0 pa g _ _ _ (Nat.lt_succ_self _) (by omega) h1 (fun j hj => by rw [if_neg (by omega)]; exact hp j hj) (fun _ _ => rfl) hW (lv_sub hl [2, 3, 4, 1, 0] rfl)
