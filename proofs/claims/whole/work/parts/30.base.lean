/-! ===== worlds by number: cell i lies at the address A i and holds g i ===== -/
abbrev wE : Type := va_G × (Nat → ClassId) × Nat
def eT (E : wE) : List (ClassId × FieldType) := [(E.2.1 0, .int), (E.2.1 1, .long), (E.2.1 2, .object RX0), (E.2.1 3, .object RX5), (E.2.1 4, .object RX9)]
def aI (E : wE) (n : Nat) (f : Nat → Int32) : va_E := .inl (E.2.1 0, n, .inl f)
def aJ (E : wE) (n : Nat) (f : Nat → Int64) : va_E := .inl (E.2.1 1, n, .inr (.inl f))
def aR (E : wE) (k n : Nat) (f : Nat → Option Nat) : va_E := .inl (E.2.1 k, n, .inr (.inr (.inr (.inr f))))
def wW (A : Nat → Nat) (g : Nat → va_E) (n : Nat) : va_W := (List.range n).map (fun i => (A i, g i))
theorem wW_get {A : Nat → Nat} {g : Nat → va_E} {n i : Nat} (h : i < n) {e : va_E} (he : g i = e) : (wW A g n)[i]? = some (A i, e) := by
  subst he
  simp [wW, h]
theorem wW_len {A : Nat → Nat} {g : Nat → va_E} {n : Nat} : (wW A g n).length = n := by simp [wW]
theorem wW_set {A : Nat → Nat} {g : Nat → va_E} {n i : Nat} {e : va_E} : (wW A g n).set i (A i, e) = wW A (va_up g i e) n := by
  apply List.ext_getElem?
  intro k
  by_cases hk : k < n
  · by_cases hi : i = k
    · subst hi
      rw [List.getElem?_set_self (by rw [wW_len]; exact hk), wW_get hk (va_up_self g i e)]
    · rw [List.getElem?_set_ne hi, wW_get hk rfl, wW_get hk (va_up_ne g e (fun h => hi h.symm))]
  · rw [List.getElem?_eq_none (by rw [List.length_set, wW_len]; omega), List.getElem?_eq_none (by rw [wW_len]; omega)]
theorem wW_at {A : Nat → Nat} {g : Nat → va_E} {n k : Nat} {q : Nat × va_E} (h : (wW A g n)[k]? = some q) : k < n ∧ q = (A k, g k) := by
  have hk : k < n := by
    have := (List.getElem?_eq_some_iff.mp h).1
    rw [wW_len] at this
    exact this
  rw [wW_get hk rfl] at h
  exact ⟨hk, (Option.some.inj h).symm⟩
theorem wW_push {A : Nat → Nat} {g : Nat → va_E} {n q : Nat} {e : va_E} : wW A g n ++ [(q, e)] = wW (va_up A n q) (va_up g n e) (n + 1) := by
  unfold wW
  rw [List.range_succ, List.map_append]
  congr 1
  · apply List.map_congr_left
    intro i hi
    have : i ≠ n := by have := List.mem_range.mp hi; omega
    rw [va_up_ne _ _ this, va_up_ne _ _ this]
  · simp [va_up_self]
/-- apart, and of a kind: it speaks of the addresses alone -/
theorem wW_D {F : Nat → Prop} {A : Nat → Nat} {g g' : Nat → va_E} {n : Nat} (h : va_D F (wW A g n)) : va_D F (wW A g' n) := by
  refine ⟨fun i j x y hi hj hxy => ?_, fun k q hk => ?_⟩
  · obtain ⟨h1, rfl⟩ := wW_at hi
    obtain ⟨h2, rfl⟩ := wW_at hj
    exact h.1 i j _ _ (wW_get h1 rfl) (wW_get h2 rfl) hxy
  · obtain ⟨h1, rfl⟩ := wW_at hk
    exact h.2 k (A k, g k) (wW_get h1 rfl)
/-- what a method may change: the world's cells, and those that it makes -/
def wF (A : Nat → Nat) (n sz : Nat) : Nat → Prop := fun q => (∃ k, k < n ∧ q = A k) ∨ sz ≤ q
theorem wF_D {A : Nat → Nat} {g : Nat → va_E} {n sz : Nat} {F : Nat → Prop} (h : va_D F (wW A g n)) : va_D (wF A n sz) (wW A g n) := by
  refine ⟨h.1, fun k q hk => ?_⟩
  obtain ⟨h1, rfl⟩ := wW_at hk
  exact Or.inl ⟨k, h1, rfl⟩
theorem wF_in {A : Nat → Nat} {g : Nat → va_E} {n sz : Nat} {F : Nat → Prop} (h : va_D F (wW A g n)) (hA : ∀ q, sz ≤ q → F q) : ∀ q, wF A n sz q → F q := by
  intro q hq
  rcases hq with ⟨k, hk, rfl⟩ | hq
  · exact h.2 k _ (wW_get hk rfl)
  · exact hA q hq
/-! ===== what the tables say that no word list carries: the links between nest mates ===== -/
def wNs : List (String × Nat × MethodName) := [(RX10, 55, yX4_init), (RX10, 62, yX1_init), (RX10, 67, yX9_init), (RX10, 68, yX0_init), (RX1, 36, yX5_init), (RX1, 87, yX10_isWithin), (RX2, 34, yX5_init), (RX2, 64, yX10_isWithin), (RX3, 11, yX0_init), (RX3, 26, yX10_isWithin), (RX4, 24, yX5_init), (RX5, 45, yX10_isWithin), (RX6, 9, yX5_init), (RX7, 21, yX5_init), (RX7, 31, yX10_isWithin), (RX8, 9, yX5_init), (RX9, 34, yX10_isWithin)]
def wN (U : State) : Prop := ∀ q ∈ wNs, va_Nw (.methodLinkNest q.1 q.2.1 q.2.2 RX10) U
theorem wN.warm {s U : State} (hW : s.WarmedH U.vm) (h : wN s) : wN U := fun q hq => va_Nw.warmM hW (h q hq)
theorem wN.same {s U : State} (hv : s.vm = U.vm) (h : wN s) : wN U := fun q hq => va_Nw.same rfl hv (h q hq)
/-- the class's one static: seventeen prime powers -/
def ppL : List Int32 := [32, 27, 25, 49, 11, 13, 17, 19, 23, 29, 31, 37, 41, 43, 47, 53, 59]
def wZ (t : Nat) (F : Nat → Prop) (U : State) (H : Heap) : Prop := va_Z RX6 "PRIME_POWERS" "[I" (.ref t) F U H ∧ va_T .int t 17 (fun j => .int (ppL.getD j 0)) F U H
theorem wZ.kept {t : Nat} {F : Nat → Prop} {U : State} {H H1 : Heap} (h : wZ t F U H) (hq : ∀ a : Nat, a < H.size → ¬ F a → H1[a]? = H[a]?) : wZ t F U H1 := ⟨h.1.kept hq, h.2.kept hq⟩
theorem wZ.moved {t : Nat} {F : Nat → Prop} {u U : State} {H : Heap} (hvm : u.vm.Alike U.vm) (h : wZ t F u H) : wZ t F U H := ⟨va_Z.moved hvm h.1, va_T.moved hvm h.2⟩
theorem wZ.narrow {t : Nat} {F B : Nat → Prop} {U : State} {H : Heap} (h : wZ t F U H) (hAB : ∀ q, B q → F q) : wZ t B U H := ⟨h.1.narrow hAB, h.2.narrow hAB⟩
/-! ===== a method's start, its end, and what holds on its way ===== -/
def wPre (E : wE) (A : Nat → Nat) (n sz : Nat) (g : Nat → va_E) : State → Prop := fun U => U.heap.size = sz ∧ va_P E.1 vwCl (wW A g n) U.heap ∧ va_K E.1 vwCl (eT E) U ∧ va_D (fun _ => True) (wW A g n) ∧ wN U ∧ wZ E.2.2 (wF A n sz) U U.heap
def wAt (E : wE) (A : Nat → Nat) (n : Nat) (g : Nat → va_E) (t : State) : Prop := va_P E.1 vwCl (wW A g n) t.heap
def wAtR (E : wE) (A : Nat → Nat) (n : Nat) (u : Nat × (Nat → va_E)) (a : Nat) (t : State) : Prop := a = A u.1 ∧ va_P E.1 vwCl (wW A u.2 n) t.heap
def wH (E : wE) (F : Nat → Prop) (A : Nat → Nat) (n : Nat) (s : State) (g : Nat → va_E) (H : Heap) (locs : List Loc) : Prop := va_P E.1 vwCl (wW A g n) H ∧ va_D F (wW A g n) ∧ va_S F s.heap H locs ∧ va_K E.1 vwCl (eT E) s ∧ wN s ∧ wZ E.2.2 F s s.heap ∧ (∀ q, s.heap.size ≤ q → F q)
theorem wPre_blind {E : wE} {A : Nat → Nat} {n sz : Nat} {g : Nat → va_E} {av : List Value} : FrameBlind (va_Pc av (wPre E A n sz g)) := by
  intro a U gf mk h
  obtain ⟨h0, h1, h2, h3, h4, h5, h6⟩ := h
  exact ⟨h0, h1, h2, va_K.moved (u := U) (U := U.calling gf mk a) (Vm.Alike.refl U.vm) h3, h4, wN.same rfl h5, wZ.moved (u := U) (U := U.calling gf mk a) (Vm.Alike.refl U.vm) h6⟩
theorem wH_F {E : wE} {F : Nat → Prop} {A : Nat → Nat} {n : Nat} {s : State} {g : Nat → va_E} {H : Heap} {locs : List Loc} (h : wH E F A n s g H locs) : ∀ q, wF A n H.size q → F q := wF_in h.2.1 (fun q hq => h.2.2.2.2.2.2 q (Nat.le_trans h.2.2.1.1 hq))
theorem wH_pre {E : wE} {F : Nat → Prop} {A : Nat → Nat} {n : Nat} {s : State} {g : Nat → va_E} {H : Heap} {locs : List Loc} (h : wH E F A n s g H locs) (av : List Value) : ∀ U : State, U.heap = H → s.WarmedH U.vm → va_Pc av (wPre E A n H.size g) av.toArray U := by
  intro U hU hw
  obtain ⟨h1, h2, h3, h4, h5, h6, h7⟩ := id h
  refine ⟨rfl, by rw [hU], by rw [hU]; exact h1, va_K.moved hw.alike h4, h2.weaken (fun _ _ _ _ => trivial), wN.warm hw h5, ?_⟩
  rw [hU]
  exact wZ.moved hw.alike ((h6.kept (fun a ha hF => h3.2.1 a ha hF)).narrow (wH_F h))
theorem wH_next {E : wE} {F : Nat → Prop} {A : Nat → Nat} {n : Nat} {s : State} {g g' : Nat → va_E} {H H1 : Heap} {locs locs1 : List Loc} (h : wH E F A n s g H locs) (hP : va_P E.1 vwCl (wW A g' n) H1) (hS : va_S F s.heap H1 locs1) : wH E F A n s g' H1 locs1 := ⟨hP, wW_D h.2.1, hS, h.2.2.2⟩
theorem wH_set {E : wE} {F : Nat → Prop} {A : Nat → Nat} {n i : Nat} {s : State} {g : Nat → va_E} {ee : va_E} {H H1 : Heap} {locs locs1 : List Loc} (h : wH E F A n s g H locs) (hP : va_P E.1 vwCl ((wW A g n).set i (A i, ee)) H1) (hS : va_S F s.heap H1 locs1) : wH E F A n s (va_up g i ee) H1 locs1 := by
  rw [wW_set] at hP
  exact wH_next h hP hS
section
variable {p : Program} {l : Launch} {e : Env} {R : Room} {s : State} {m : MethodId} {args : Array Value} {below : List Frame} {meth : Method} {c : Code} {H : Heap} {locs : List Loc} {cells slots : Nat} {Q : State → Prop} {cc : ByteArray} {nL : Nat} {Ts : List Cond} {own : String} {pc : Nat} {ls : Array Slot} {rest st0 : List Value} {E : wE} {F : Nat → Prop} {A : Nat → Nat} {n i : Nat} {g : Nat → va_E}
/-! ===== a method from its contract's head to its first instruction ===== -/
theorem x_met {y : MethodName} {ws ws' : List Cond} {rm : Room} {Qc : Array Value → State → Outcome → State → Prop} {mc ms sz maxL : Nat} {free : Addr → Prop} {ret : Option FieldType} (av : List Value)
    (hy : plainName y.cls = true) (hw : ws = Cond.code y cc maxL ret :: ws') (hle : (lg_sl av).length ≤ maxL)
    (body : ∀ (p : Program) (e : Env) (s : State) (m : MethodId) (below : List Frame) (meth : Method) (c : Code) (ls : Array Slot), CallFix p m c cc maxL s av.toArray ws y.cls → meth.sig.returnType = ret → meth.locks = false → meth.name = y.name → s.heap.size = sz → wH E (wF A n sz) A n s g s.heap [] → lv_has ls maxL (lv_args 0 av) →
      W p l e rm s m av.toArray below meth c s.heap [] 0 0 (MQ below Qc av.toArray s mc ms free) (F0 m 0 ls [])) : Met l y ws rm (va_Pc av (wPre E A n sz g)) Qc mc ms free := by
  refine Met.ofW (cc := cc) (maxL := maxL) (ret := ret) hy hw ?_
  intro p e s m args below meth c s₁ B hml hv
  obtain ⟨rfl, hsz, hP, hK, hD0, hN, hZ⟩ := hv
  have hts := atoms_spec (ws := ws) B.pre
  have hown : s.vm.findClass y.cls = some m.cls := findClass_of_methodNamed B.named
  have hl := lv_entry av (n := maxL) hle
  rw [lg_entry_eq]
  generalize (lg_sl av ++ List.replicate (maxL - (lg_sl av).length) Slot.unset).toArray = ls at hl ⊢
  refine body p e s m below meth c ls ⟨B.exec, B.bytes, hml, hown, hts⟩ B.returns B.notSynchronized (name_of_methodNamed B.named B.method).1 hsz ⟨hP, wF_D hD0, va_S.rf, hK, hN, hZ, fun q hq => Or.inr (by omega)⟩ hl
/-! ===== the ends ===== -/
theorem x_vret {post : (Nat → va_E) → Prop} {sz : Nat} (X : CallFix p m c cc nL s args Ts own) (hr : meth.sig.returnType = none) (hlk : meth.locks = false) (hW : wH E (wF A n sz) A n s g H locs) (hp : post g) (hdg : decode cc pc = .ok (.return_, 1)) :
    W p l e R s m args below meth c H locs cells slots (MQ below (va_Qv post (wAt E A n) (wF A n sz)) args s cells slots (wF A n sz)) (F0 m pc ls []) :=
  W.vret X.1 X.2.1 hr (fun t ht _ => ⟨⟨g, rfl, hp, by show va_P E.1 vwCl (wW A g n) t.heap; rw [ht]; exact hW.1⟩, hW.2.2.1.F ht⟩) hW.2.2.1.2.2 hdg (hlocks := hlk)
theorem x_iret {post : Int32 → (Nat → va_E) → Prop} {sz : Nat} {v : Int32} (X : CallFix p m c cc nL s args Ts own) (hr : meth.sig.returnType = some .int) (hlk : meth.locks = false) (hW : wH E (wF A n sz) A n s g H locs) (hp : post v g) (hdg : decode cc pc = .ok (.ireturn, 1)) :
    W p l e R s m args below meth c H locs cells slots (MQ below (va_Qi post (wAt E A n) (wF A n sz)) args s cells slots (wF A n sz)) (F0 m pc ls [.int v]) :=
  W.iret X.1 X.2.1 hr (fun t ht _ => ⟨⟨v, g, rfl, hp, by show va_P E.1 vwCl (wW A g n) t.heap; rw [ht]; exact hW.1⟩, hW.2.2.1.F ht⟩) hW.2.2.1.2.2 hdg (hlocks := hlk)
theorem x_zret {post : Int32 → (Nat → va_E) → Prop} {sz : Nat} {v : Int32} (X : CallFix p m c cc nL s args Ts own) (hr : meth.sig.returnType = some .boolean) (hlk : meth.locks = false) (hv : narrow .boolean (.int v) = .int v) (hW : wH E (wF A n sz) A n s g H locs) (hp : post v g) (hdg : decode cc pc = .ok (.ireturn, 1)) :
    W p l e R s m args below meth c H locs cells slots (MQ below (va_Qi post (wAt E A n) (wF A n sz)) args s cells slots (wF A n sz)) (F0 m pc ls [.int v]) :=
  W.zret X.1 X.2.1 hr hv (fun t ht _ => ⟨⟨v, g, rfl, hp, by show va_P E.1 vwCl (wW A g n) t.heap; rw [ht]; exact hW.1⟩, hW.2.2.1.F ht⟩) hW.2.2.1.2.2 hdg (hlocks := hlk)
theorem x_lret {post : Int64 → (Nat → va_E) → Prop} {sz : Nat} {v : Int64} (X : CallFix p m c cc nL s args Ts own) (hr : meth.sig.returnType = some .long) (hlk : meth.locks = false) (hW : wH E (wF A n sz) A n s g H locs) (hp : post v g) (hdg : decode cc pc = .ok (.lreturn, 1)) :
    W p l e R s m args below meth c H locs cells slots (MQ below (va_Ql post (wAt E A n) (wF A n sz)) args s cells slots (wF A n sz)) (F0 m pc ls [.long v]) :=
  W.lret X.1 X.2.1 hr (fun t ht _ => ⟨⟨v, g, rfl, hp, by show va_P E.1 vwCl (wW A g n) t.heap; rw [ht]; exact hW.1⟩, hW.2.2.1.F ht⟩) hW.2.2.1.2.2 hdg (hlocks := hlk)
theorem x_aret {post : Nat × (Nat → va_E) → Prop} {sz j : Nat} {C : String} (X : CallFix p m c cc nL s args Ts own) (hr : meth.sig.returnType = some (.object C)) (hlk : meth.locks = false) (hW : wH E (wF A n sz) A n s g H locs) (hp : post (j, g)) (hdg : decode cc pc = .ok (.areturn, 1)) :
    W p l e R s m args below meth c H locs cells slots (MQ below (va_Qr post (wAtR E A n) (wF A n sz)) args s cells slots (wF A n sz)) (F0 m pc ls [.ref (A j)]) :=
  W.aret X.1 X.2.1 hr (Or.inl ⟨C, rfl⟩) (Or.inr ⟨_, rfl⟩) (fun t ht _ => ⟨⟨(j, g), A j, rfl, hp, rfl, by rw [ht]; exact hW.1⟩, hW.2.2.1.F ht⟩) hW.2.2.1.2.2 hdg (hlocks := hlk)
/-! ===== fields and arrays ===== -/
theorem x_get (X : CallFix p m c cc nL s args Ts own) (hW : wH E F A n s g H locs) {ci : Nat} {fs : List Value} (hi : i < n) (hg : g i = .inr (ci, fs)) {C : String} {T : u_T} {N : Nat} (hc : vwCl[ci]? = some (C, T, N)) (hin : ∀ w ∈ u_ws C T N, w ∈ Ts) (k : Nat) (hk : k < N) {index : Nat} (hl : Cond.fieldLink own index (T k).1 (T k).2.1 (T k).2.2.1 ∈ Ts) {v : Value} (hv : fs[k]? = some v) (hdg : decode cc pc = .ok (.getfield index, 3))
    (kk : W p l e R s m args below meth c H locs cells slots Q (F0 m (pc + 3) ls (v :: rest))) : W p l e R s m args below meth c H locs cells slots Q (F0 m pc ls (.ref (A i) :: rest)) :=
  va_get X.1 X.2.1 X.2.2.2.2 hin X.2.2.2.1 hW.2.2.2.1 hW.1 i (wW_get hi hg) hc k hk (X.2.2.2.2 _ hl) (fun _ h => h) hv hdg kk
theorem x_put (X : CallFix p m c cc nL s args Ts own) (hW : wH E F A n s g H locs) {ci : Nat} {fs : List Value} (hi : i < n) (hg : g i = .inr (ci, fs)) {C : String} {T : u_T} {N : Nat} (hc : vwCl[ci]? = some (C, T, N)) (hin : ∀ w ∈ u_ws C T N, w ∈ Ts) (ty0 : Nat → FieldType) (hty : ∀ k, k < N → parseFieldDescriptor (T k).2.2.1 = some (ty0 k)) (hnm : ∀ a, a < N → ∀ b, b < N → a ≠ b → (T a).2.1 ≠ (T b).2.1) (k : Nat) (hk : k < N) {index : Nat} (hl : Cond.fieldLink own index (T k).1 (T k).2.1 (T k).2.2.1 ∈ Ts) (hfin : (T k).2.2.2 = false) {v : Value} (hn : narrow (ty0 k) v = v) (hfit : fits (ty0 k) v = true) (hlen : k < fs.length) (hdg : decode cc pc = .ok (.putfield index, 3))
    (kk : ∀ (g' : Nat → va_E) (H1 : Heap) (locs1 : List Loc), g' = va_up g i (.inr (ci, fs.set k v)) → wH E F A n s g' H1 locs1 → W p l e R s m args below meth c H1 locs1 cells slots Q (F0 m (pc + 3) ls rest)) : W p l e R s m args below meth c H locs cells slots Q (F0 m pc ls (v :: .ref (A i) :: rest)) :=
  va_put X.1 X.2.1 X.2.2.2.2 hin ty0 hty hnm X.2.2.2.1 hW.2.2.2.1 hW.1 hW.2.1 hW.2.2.1 i (wW_get hi hg) hc k hk (X.2.2.2.2 _ hl) (fun _ h => h) hfin (hty k hk) hn hfit hlen hdg (fun H1 locs1 hP _ hS => kk _ H1 locs1 rfl (wH_set hW hP hS))
theorem x_putF (X : CallFix p m c cc nL s args Ts own) (hnm0 : meth.name = "<init>") (hW : wH E F A n s g H locs) {ci : Nat} {fs : List Value} (hi : i < n) (hg : g i = .inr (ci, fs)) {C : String} {T : u_T} {N : Nat} (hc : vwCl[ci]? = some (C, T, N)) (hin : ∀ w ∈ u_ws C T N, w ∈ Ts) (ty0 : Nat → FieldType) (hty : ∀ k, k < N → parseFieldDescriptor (T k).2.2.1 = some (ty0 k)) (hnm : ∀ a, a < N → ∀ b, b < N → a ≠ b → (T a).2.1 ≠ (T b).2.1) (k : Nat) (hk : k < N) {index : Nat} (hl : Cond.fieldLink own index (T k).1 (T k).2.1 (T k).2.2.1 ∈ Ts) (hfin : (T k).2.2.2 = true) (hdecl : (T k).1 = own) {v : Value} (hn : narrow (ty0 k) v = v) (hfit : fits (ty0 k) v = true) (hlen : k < fs.length) (hdg : decode cc pc = .ok (.putfield index, 3))
    (kk : ∀ (g' : Nat → va_E) (H1 : Heap) (locs1 : List Loc), g' = va_up g i (.inr (ci, fs.set k v)) → wH E F A n s g' H1 locs1 → W p l e R s m args below meth c H1 locs1 cells slots Q (F0 m (pc + 3) ls rest)) : W p l e R s m args below meth c H locs cells slots Q (F0 m pc ls (v :: .ref (A i) :: rest)) :=
  va_putF X.1 X.2.1 X.2.2.2.2 hin ty0 hty hnm X.2.2.2.1 hW.2.2.2.1 hW.1 hW.2.1 hW.2.2.1 i (wW_get hi hg) hc k hk (X.2.2.2.2 _ hl) (fun _ h => h) hfin hnm0 hdecl (hty k hk) hn hfit hlen hdg (fun H1 locs1 hP _ hS => kk _ H1 locs1 rfl (wH_set hW hP hS))
/-! ===== calls: the callee sees the whole world ===== -/
section Call
variable {y : MethodName} {bytes : ByteArray} {maxL k index : Nat} {ret : Option FieldType} {ws ws' : List Cond} {rm : Room} {C : String} {As : List Value}
theorem x_runV {Qc : Array Value → State → Outcome → State → Prop} {ci : Nat} {fs : List Value} {r : vw_C} (X : CallFix p m c cc nL s args Ts own) (hW : wH E F A n s g H locs) (hM : Met l y ws rm (va_Pc (.ref (A i) :: As) (wPre E A n H.size g)) Qc 0 0 (wF A n H.size)) (hi : i < n) (hg : g i = .inr (ci, fs)) (hc : vwCl[ci]? = some r) (hG : GoodIn Ts (wsV own index r.1 y ws)) (hw : ws = Cond.code y bytes maxL ret :: ws') (hrc : rm.cells = 0) (hrs : rm.slots = 0)
    (hd : y.cls = r.1 ∧ y.cls ≠ "java/lang/invoke/MethodHandle" ∧ y.cls ≠ "java/lang/invoke/VarHandle" ∧ (parseMethodDescriptor y.desc).map (fun d => d.parameters.length) = some k) (hR : rm.frames + 1 ≤ R.frames ∧ 8 + (maxL + 11) + rm.locals ≤ R.locals) (hn : As.length = k) (hls : ls.size = nL) (hst : st0 = As.reverse ++ .ref (A i) :: rest) (hrest : (rest.map fun v => v.category).sum ≤ 8) (hdg : decode cc pc = .ok (.invokevirtual index, 3)) (hcs : cells ≤ R.cells ∧ slots ≤ R.slots) :
    va_Run p l e R s m args below meth c H locs cells slots 0 0 (F0 m pc ls st0) rest (Qc (Value.ref (A i) :: As).toArray) (wF A n H.size) :=
  va_runV X hM (cwV k X.2.2.2.2 hG hw hrc hrs hd hR) ⟨wPre_blind, va_recv hW.2.2.2.1 hW.1 hc (wW_get hi hg), wH_pre hW _⟩ rfl hn hls hst (lv_room hrest) hdg hcs
theorem x_runS {Qc : Array Value → State → Outcome → State → Prop} (X : CallFix p m c cc nL s args Ts own) (hW : wH E F A n s g H locs) (hM : Met l y ws rm (va_Pc As (wPre E A n H.size g)) Qc 0 0 (wF A n H.size)) (hG : GoodIn Ts (va_wsS own index y ws)) (hw : ws = Cond.code y bytes maxL ret :: ws') (hrc : rm.cells = 0) (hrs : rm.slots = 0)
    (hd : y.cls ≠ "java/lang/invoke/MethodHandle" ∧ y.cls ≠ "java/lang/invoke/VarHandle" ∧ (parseMethodDescriptor y.desc).map (fun d => d.parameters.length) = some k) (hR : rm.frames + 1 ≤ R.frames ∧ 8 + (maxL + 11) + rm.locals ≤ R.locals) (hn : As.length = k) (hls : ls.size = nL) (hst : st0 = As.reverse ++ rest) (hrest : (rest.map fun v => v.category).sum ≤ 8) (hdg : decode cc pc = .ok (.invokestatic index, 3)) (hcs : cells ≤ R.cells ∧ slots ≤ R.slots) :
    va_Run p l e R s m args below meth c H locs cells slots 0 0 (F0 m pc ls st0) rest (Qc As.toArray) (wF A n H.size) :=
  va_runS X hM (va_cwS k X.2.2.2.2 hG hw hrc hrs hd hR) ⟨wPre_blind, wH_pre hW _⟩ rfl hn hls hst (lv_room hrest) hdg hcs
/-- a private static method of a nest mate -/
theorem x_runSN {Qc : Array Value → State → Outcome → State → Prop} (X : CallFix p m c cc nL s args Ts own) (hW : wH E F A n s g H locs) (hM : Met l y ws rm (va_Pc As (wPre E A n H.size g)) Qc 0 0 (wF A n H.size)) (hG : GoodIn Ts ws) (hw : ws = Cond.code y bytes maxL ret :: ws') (hrc : rm.cells = 0) (hrs : rm.slots = 0) (hNs : (own, index, y) ∈ wNs) (hini : Cond.initialized y.cls ∈ Ts) (hsta : Cond.static y ∈ Ts)
    (hd : y.cls ≠ "java/lang/invoke/MethodHandle" ∧ y.cls ≠ "java/lang/invoke/VarHandle" ∧ (parseMethodDescriptor y.desc).map (fun d => d.parameters.length) = some k) (hR : rm.frames + 1 ≤ R.frames ∧ 8 + (maxL + 11) + rm.locals ≤ R.locals) (hn : As.length = k) (hls : ls.size = nL) (hst : st0 = As.reverse ++ rest) (hrest : (rest.map fun v => v.category).sum ≤ 8) (hdg : decode cc pc = .ok (.invokestatic index, 3)) (hcs : cells ≤ R.cells ∧ slots ≤ R.slots) :
    va_Run p l e R s m args below meth c H locs cells slots 0 0 (F0 m pc ls st0) rest (Qc As.toArray) (wF A n H.size) :=
  va_runSN X hM ⟨va_cnB k X.2.2.2.2 hG hw hrc hrs (hW.2.2.2.2.1 _ hNs) (X.2.2.2.2 _ hini) hd hR, X.2.2.2.2 _ hsta, trivial⟩ ⟨wPre_blind, wH_pre hW _⟩ rfl hn hls hst (lv_room hrest) hdg hcs
theorem x_cv {post : (Nat → va_E) → Prop} {a : Array Value} (hr : va_Run p l e R s m args below meth c H locs cells slots 0 0 (F0 m pc ls st0) rest (va_Qv post (wAt E A n) (wF A n H.size) a) (wF A n H.size)) (hW : wH E F A n s g H locs)
    (kk : ∀ (g' : Nat → va_E) (H1 : Heap) (locs1 : List Loc), post g' → wH E F A n s g' H1 locs1 → W p l e R s m args below meth c H1 locs1 cells slots Q (F0 m (pc + 3) ls rest)) : W p l e R s m args below meth c H locs cells slots Q (F0 m pc ls st0) := by
  refine va_callv hr hW.2.2.1 (fun q _ h => wH_F hW q h) (wH_F hW) (fun u t H1 locs1 ht _ hp hB _ _ hS => kk u H1 locs1 hp (wH_next hW ?_ hS))
  have hB : va_P E.1 vwCl (wW A u n) t.heap := hB
  rw [ht] at hB
  exact hB
theorem x_ci {post : Int32 → (Nat → va_E) → Prop} {a : Array Value} (hr : va_Run p l e R s m args below meth c H locs cells slots 0 0 (F0 m pc ls st0) rest (va_Qi post (wAt E A n) (wF A n H.size) a) (wF A n H.size)) (hW : wH E F A n s g H locs)
    (kk : ∀ (r : Int32) (g' : Nat → va_E) (H1 : Heap) (locs1 : List Loc), post r g' → wH E F A n s g' H1 locs1 → W p l e R s m args below meth c H1 locs1 cells slots Q (F0 m (pc + 3) ls (.int r :: rest))) : W p l e R s m args below meth c H locs cells slots Q (F0 m pc ls st0) := by
  refine va_calli hr hW.2.2.1 (fun q _ h => wH_F hW q h) (wH_F hW) (fun r u t H1 locs1 ht _ hp hB _ _ hS => kk r u H1 locs1 hp (wH_next hW ?_ hS))
  have hB : va_P E.1 vwCl (wW A u n) t.heap := hB
  rw [ht] at hB
  exact hB
theorem x_cl {post : Int64 → (Nat → va_E) → Prop} {a : Array Value} (hr : va_Run p l e R s m args below meth c H locs cells slots 0 0 (F0 m pc ls st0) rest (va_Ql post (wAt E A n) (wF A n H.size) a) (wF A n H.size)) (hW : wH E F A n s g H locs)
    (kk : ∀ (r : Int64) (g' : Nat → va_E) (H1 : Heap) (locs1 : List Loc), post r g' → wH E F A n s g' H1 locs1 → W p l e R s m args below meth c H1 locs1 cells slots Q (F0 m (pc + 3) ls (.long r :: rest))) : W p l e R s m args below meth c H locs cells slots Q (F0 m pc ls st0) := by
  refine va_calll hr hW.2.2.1 (fun q _ h => wH_F hW q h) (wH_F hW) (fun r u t H1 locs1 ht _ hp hB _ _ hS => kk r u H1 locs1 hp (wH_next hW ?_ hS))
  have hB : va_P E.1 vwCl (wW A u n) t.heap := hB
  rw [ht] at hB
  exact hB
theorem x_cr {post : Nat × (Nat → va_E) → Prop} {a : Array Value} (hr : va_Run p l e R s m args below meth c H locs cells slots 0 0 (F0 m pc ls st0) rest (va_Qr post (wAtR E A n) (wF A n H.size) a) (wF A n H.size)) (hW : wH E F A n s g H locs)
    (kk : ∀ (j : Nat) (g' : Nat → va_E) (H1 : Heap) (locs1 : List Loc), post (j, g') → wH E F A n s g' H1 locs1 → W p l e R s m args below meth c H1 locs1 cells slots Q (F0 m (pc + 3) ls (.ref (A j) :: rest))) : W p l e R s m args below meth c H locs cells slots Q (F0 m pc ls st0) := by
  refine va_callr hr hW.2.2.1 (fun q _ h => wH_F hW q h) (wH_F hW) (fun u ra t H1 locs1 ht _ hp hB _ _ hS => ?_)
  obtain ⟨j, g'⟩ := u
  obtain ⟨rfl, hB⟩ := hB
  rw [ht] at hB
  exact kk j g' H1 locs1 hp (wH_next hW hB hS)
end Call
end
