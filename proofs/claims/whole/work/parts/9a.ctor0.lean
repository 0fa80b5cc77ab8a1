/-! ===== constructors: worlds that grow ===== -/
def wO (U : State) : Prop := va_AO RX0 U ∧ va_AO RX5 U ∧ va_AO RX9 U
theorem wO.moved {u U : State} (hvm : u.vm.Alike U.vm) (h : wO u) : wO U := ⟨va_AO.moved hvm h.1, va_AO.moved hvm h.2.1, va_AO.moved hvm h.2.2⟩
def wPreC (E : wE) (A : Nat → Nat) (n sz : Nat) (g : Nat → va_E) : State → Prop := fun U => wPre E A n sz g U ∧ wO U
def wAtC (E : wE) (F : Nat → Prop) (n : Nat) (u : (Nat → Nat) × (Nat → va_E)) (t : State) : Prop := va_P E.1 vwCl (wW u.1 u.2 n) t.heap ∧ va_D F (wW u.1 u.2 n)
theorem wPreC_blind {E : wE} {A : Nat → Nat} {n sz : Nat} {g : Nat → va_E} {av : List Value} : FrameBlind (va_Pc av (wPreC E A n sz g)) := by
  intro a U gf mk h
  obtain ⟨h0, h1, h2⟩ := h
  have h3 := wPre_blind (av := av) a U gf mk ⟨h0, h1⟩
  exact ⟨h3.1, h3.2, wO.moved (u := U) (U := U.calling gf mk a) (Vm.Alike.refl U.vm) h2⟩
theorem wH_preC {E : wE} {F : Nat → Prop} {A : Nat → Nat} {n : Nat} {s : State} {g : Nat → va_E} {H : Heap} {locs : List Loc} (h : wH E F A n s g H locs) (hO : wO s) (av : List Value) : ∀ U : State, U.heap = H → s.WarmedH U.vm → va_Pc av (wPreC E A n H.size g) av.toArray U := by
  intro U hU hw
  have h1 := wH_pre h av U hU hw
  exact ⟨h1.1, h1.2, wO.moved hw.alike hO⟩
section
variable {p : Program} {l : Launch} {e : Env} {R : Room} {s : State} {m : MethodId} {args : Array Value} {below : List Frame} {meth : Method} {c : Code} {H : Heap} {locs : List Loc} {cells slots : Nat} {Q : State → Prop} {cc : ByteArray} {nL : Nat} {Ts : List Cond} {own : String} {pc : Nat} {ls : Array Slot} {rest st0 : List Value} {E : wE} {F : Nat → Prop} {A : Nat → Nat} {n i : Nat} {g : Nat → va_E}
theorem x_metC {y : MethodName} {ws ws' : List Cond} {rm : Room} {Qc : Array Value → State → Outcome → State → Prop} {mc ms sz maxL : Nat} {free : Addr → Prop} {ret : Option FieldType} (av : List Value)
    (hy : plainName y.cls = true) (hw : ws = Cond.code y cc maxL ret :: ws') (hle : (lg_sl av).length ≤ maxL)
    (body : ∀ (p : Program) (e : Env) (s : State) (m : MethodId) (args : Array Value) (below : List Frame) (meth : Method) (c : Code) (ls : Array Slot), CallFix p m c cc maxL s args ws y.cls → meth.sig.returnType = ret → meth.locks = false → meth.name = y.name → s.heap.size = sz → wH E (wF A n sz) A n s g s.heap [] → wO s → lv_has ls maxL (lv_args 0 av) →
      W p l e rm s m args below meth c s.heap [] 0 0 (MQ below Qc args s mc ms free) (F0 m 0 ls [])) : Met l y ws rm (va_Pc av (wPreC E A n sz g)) Qc mc ms free := by
  refine Met.ofW (cc := cc) (maxL := maxL) (ret := ret) hy hw ?_
  intro p e s m args below meth c s₁ B hml hv
  obtain ⟨rfl, ⟨hsz, hP, hK, hD0, hN, hZ⟩, hO⟩ := hv
  have hts := atoms_spec (ws := ws) B.pre
  have hown : s.vm.findClass y.cls = some m.cls := findClass_of_methodNamed B.named
  have hl := lv_entry av (n := maxL) hle
  rw [lg_entry_eq]
  generalize (lg_sl av ++ List.replicate (maxL - (lg_sl av).length) Slot.unset).toArray = ls at hl ⊢
  refine body p e s m _ below meth c ls ⟨B.exec, B.bytes, hml, hown, hts⟩ B.returns B.notSynchronized (name_of_methodNamed B.named B.method).1 hsz ⟨hP, wF_D hD0, va_S.rf, hK, hN, hZ, fun q hq => Or.inr (by omega)⟩ hO hl
theorem x_vretC {post : (Nat → Nat) × (Nat → va_E) → Prop} {sz n0 mc ms : Nat} {A0 : Nat → Nat} (X : CallFix p m c cc nL s args Ts own) (hr : meth.sig.returnType = none) (hlk : meth.locks = false) (hW : wH E (wF A0 n0 sz) A n s g H locs) (h1 : cells ≤ mc) (h2 : slots ≤ ms) (hp : post (A, g)) (hdg : decode cc pc = .ok (.return_, 1)) :
    W p l e R s m args below meth c H locs cells slots (MQ below (va_Qv post (wAtC E (wF A0 n0 sz) n) (wF A0 n0 sz)) args s mc ms (wF A0 n0 sz)) (F0 m pc ls []) := by
  refine W.widen (k := mc) (n := ms) h1 h2 ?_
  exact W.vret X.1 X.2.1 hr (fun t ht _ => ⟨⟨(A, g), rfl, hp, by rw [ht]; exact hW.1, hW.2.1⟩, hW.2.2.1.F ht⟩) hW.2.2.1.2.2 hdg (hlocks := hlk)
theorem x_objInit (X : CallFix p m c cc nL s args Ts own) {idx : Nat} (h1 : Cond.methodLink own idx objectInit ∈ Ts) (h2 : Cond.instanceMethod objectInit ∈ Ts) (h3 : Cond.code objectInit ⟨#[0xb1]⟩ 1 none ∈ Ts) (hls : ls.size = nL) {a : Addr} (hf : 1 ≤ R.frames) (hlo : (rest.map fun v => v.category).sum + 12 ≤ R.locals) (hdg : decode cc pc = .ok (.invokespecial idx, 3))
    (kk : W p l e R s m args below meth c H locs cells slots Q (F0 m (pc + 3) ls rest)) : W p l e R s m args below meth c H locs cells slots Q (F0 m pc ls (.ref a :: rest)) :=
  W.objInit X.1 X.2.1 X.2.2.2.1 (X.2.2.2.2 _ h1) (X.2.2.2.2 _ h2) (X.2.2.2.2 _ h3) rfl (by rw [X.2.2.1]; exact hls) rfl hdg hf (by show 2 * 0 + _ + 12 ≤ _; omega) kk
theorem x_new (X : CallFix p m c cc nL s args Ts own) (hW : wH E F A n s g H locs) {ci N index : Nat} {C : String} {T : u_T} (hc : vwCl[ci]? = some (C, T, N)) (hin : ∀ w ∈ u_ws C T N, w ∈ Ts) (ty0 : Nat → FieldType) (hty : ∀ k, k < N → parseFieldDescriptor (T k).2.2.1 = some (ty0 k)) (h1 : Cond.classLink own index C ∈ Ts) (h2 : Cond.instantiable C N ∈ Ts) (h3 : Cond.initialized C ∈ Ts) {fs : List Value} (hfs : ∀ j, j < N → defaultValue (ty0 j) = vp_V fs j) (hcl : cells + 1 ≤ R.cells) (hsl : slots + N ≤ R.slots) (hdg : decode cc pc = .ok (.new index, 3))
    (kk : ∀ (q : Nat) (A' : Nat → Nat) (g' : Nat → va_E) (H1 : Heap), q = A' n → (∀ k, k < n → A' k = A k) → (∀ k, k < n → g' k = g k) → g' n = .inr (ci, fs) → wH E F A' (n + 1) s g' H1 locs → W p l e R s m args below meth c H1 locs (cells + 1) (slots + N) Q (F0 m (pc + 3) ls (.ref q :: rest))) : W p l e R s m args below meth c H locs cells slots Q (F0 m pc ls rest) :=
  va_new X.1 X.2.1 X.2.2.2.2 hin ty0 hty X.2.2.2.1 (X.2.2.2.2 _ h1) (X.2.2.2.2 _ h2) (X.2.2.2.2 _ h3) hW.2.2.2.1 hW.1 hW.2.1 hW.2.2.1 hW.2.2.2.2.2.2 hc hfs hcl hsl hdg (fun q H1 hP hD hS => kk q (va_up A n q) (va_up g n (.inr (ci, fs))) H1 (va_up_self _ _ _).symm (fun k hk => va_up_ne _ _ (Nat.ne_of_lt hk)) (fun k hk => va_up_ne _ _ (Nat.ne_of_lt hk)) (va_up_self _ _ _) ⟨by rw [← wW_push]; exact hP, by rw [← wW_push]; exact hD, hS, hW.2.2.2⟩)
theorem x_newI (X : CallFix p m c cc nL s args Ts own) (hW : wH E F A n s g H locs) (h1 : Cond.arrayClass .int ∈ Ts) {v : Int32} (N : Nat) (hn : ¬ v < 0) (hN : v.toNatClampNeg = N) (hN2 : N ≤ 100000) (hcl : cells + 1 ≤ R.cells) (hsl : slots + N ≤ R.slots) (hdg : decode cc pc = .ok (.newarray .int, 2))
    (kk : ∀ (q : Nat) (A' : Nat → Nat) (g' : Nat → va_E) (H1 : Heap), q = A' n → (∀ k, k < n → A' k = A k) → (∀ k, k < n → g' k = g k) → g' n = aI E N (fun _ => 0) → wH E F A' (n + 1) s g' H1 locs → W p l e R s m args below meth c H1 locs (cells + 1) (slots + N) Q (F0 m (pc + 2) ls (.ref q :: rest))) : W p l e R s m args below meth c H locs cells slots Q (F0 m pc ls (.int v :: rest)) := by
  refine va_newa (atype := .int) X.1 X.2.1 (X.2.2.2.2 _ h1) rfl hW.2.2.2.1 hW.1 hW.2.1 hW.2.2.1 hW.2.2.2.2.2.2 (a0 := (N, .inl (fun _ => 0))) (fun _ => rfl) hn hN (by show N * 4 ≤ _; omega) hcl hsl hdg (fun q cA H1 hK hP hD hS => ?_)
  have e1 : va_RA s cA .int := (hK.2 5 (cA, .int) rfl).2
  have e2 : va_RA s (E.2.1 0) .int := (hW.2.2.2.1.2 0 (E.2.1 0, .int) rfl).2
  have e3 : cA = E.2.1 0 := Option.some.inj (e1.symm.trans e2)
  subst e3
  exact kk q (va_up A n q) (va_up g n (aI E N (fun _ => 0))) H1 (va_up_self _ _ _).symm (fun k hk => va_up_ne _ _ (Nat.ne_of_lt hk)) (fun k hk => va_up_ne _ _ (Nat.ne_of_lt hk)) (va_up_self _ _ _) ⟨by rw [← wW_push]; exact hP, by rw [← wW_push]; exact hD, hS, hW.2.2.2⟩
theorem x_newJ (X : CallFix p m c cc nL s args Ts own) (hW : wH E F A n s g H locs) (h1 : Cond.arrayClass .long ∈ Ts) {v : Int32} (N : Nat) (hn : ¬ v < 0) (hN : v.toNatClampNeg = N) (hN2 : N ≤ 100000) (hcl : cells + 1 ≤ R.cells) (hsl : slots + N ≤ R.slots) (hdg : decode cc pc = .ok (.newarray .long, 2))
    (kk : ∀ (q : Nat) (A' : Nat → Nat) (g' : Nat → va_E) (H1 : Heap), q = A' n → (∀ k, k < n → A' k = A k) → (∀ k, k < n → g' k = g k) → g' n = aJ E N (fun _ => 0) → wH E F A' (n + 1) s g' H1 locs → W p l e R s m args below meth c H1 locs (cells + 1) (slots + N) Q (F0 m (pc + 2) ls (.ref q :: rest))) : W p l e R s m args below meth c H locs cells slots Q (F0 m pc ls (.int v :: rest)) := by
  refine va_newa (atype := .long) X.1 X.2.1 (X.2.2.2.2 _ h1) rfl hW.2.2.2.1 hW.1 hW.2.1 hW.2.2.1 hW.2.2.2.2.2.2 (a0 := (N, .inr (.inl (fun _ => 0)))) (fun _ => rfl) hn hN (by show N * 8 ≤ _; omega) hcl hsl hdg (fun q cA H1 hK hP hD hS => ?_)
  have e1 : va_RA s cA .long := (hK.2 5 (cA, .long) rfl).2
  have e2 : va_RA s (E.2.1 1) .long := (hW.2.2.2.1.2 1 (E.2.1 1, .long) rfl).2
  have e3 : cA = E.2.1 1 := Option.some.inj (e1.symm.trans e2)
  subst e3
  exact kk q (va_up A n q) (va_up g n (aJ E N (fun _ => 0))) H1 (va_up_self _ _ _).symm (fun k hk => va_up_ne _ _ (Nat.ne_of_lt hk)) (fun k hk => va_up_ne _ _ (Nat.ne_of_lt hk)) (va_up_self _ _ _) ⟨by rw [← wW_push]; exact hP, by rw [← wW_push]; exact hD, hS, hW.2.2.2⟩
theorem x_newR (X : CallFix p m c cc nL s args Ts own) (hW : wH E F A n s g H locs) {C : String} {t index : Nat} (ht : (eT E)[t]? = some (E.2.1 t, .object C)) (h1 : Cond.classLink own index C ∈ Ts) (hO : va_AO C s) {v : Int32} (N : Nat) (hn : ¬ v < 0) (hN : v.toNatClampNeg = N) (hN2 : N ≤ 100000) (hcl : cells + 1 ≤ R.cells) (hsl : slots + N ≤ R.slots) (hdg : decode cc pc = .ok (.anewarray index, 3))
    (kk : ∀ (q : Nat) (A' : Nat → Nat) (g' : Nat → va_E) (H1 : Heap), q = A' n → (∀ k, k < n → A' k = A k) → (∀ k, k < n → g' k = g k) → g' n = aR E t N (fun _ => none) → wH E F A' (n + 1) s g' H1 locs → W p l e R s m args below meth c H1 locs (cells + 1) (slots + N) Q (F0 m (pc + 3) ls (.ref q :: rest))) : W p l e R s m args below meth c H locs cells slots Q (F0 m pc ls (.int v :: rest)) := by
  refine va_newq X.1 X.2.1 X.2.2.2.1 (X.2.2.2.2 _ h1) hO hW.2.2.2.1 hW.1 hW.2.1 hW.2.2.1 hW.2.2.2.2.2.2 hn hN (by omega) hcl hsl hdg (fun q cA H1 hK hP hD hS => ?_)
  obtain ⟨_, _, _, _, _, e1⟩ : va_RA s cA (.object C) := (hK.2 5 (cA, .object C) rfl).2
  obtain ⟨_, _, _, _, _, e2⟩ : va_RA s (E.2.1 t) (.object C) := (hW.2.2.2.1.2 t _ ht).2
  have e3 : cA = E.2.1 t := Option.some.inj (e1.symm.trans e2)
  subst e3
  exact kk q (va_up A n q) (va_up g n (aR E t N (fun _ => none))) H1 (va_up_self _ _ _).symm (fun k hk => va_up_ne _ _ (Nat.ne_of_lt hk)) (fun k hk => va_up_ne _ _ (Nat.ne_of_lt hk)) (va_up_self _ _ _) ⟨by rw [← wW_push]; exact hP, by rw [← wW_push]; exact hD, hS, hW.2.2.2⟩
/-! fields, by an address that a name stands for -/
theorem xc_get (X : CallFix p m c cc nL s args Ts own) (hW : wH E F A n s g H locs) {a : Nat} (ha : a = A i) {ci : Nat} {fs : List Value} (hi : i < n) (hg : g i = .inr (ci, fs)) {C : String} {T : u_T} {N : Nat} (hc : vwCl[ci]? = some (C, T, N)) (hin : ∀ w ∈ u_ws C T N, w ∈ Ts) (k : Nat) (hk : k < N) {index : Nat} (hl : Cond.fieldLink own index (T k).1 (T k).2.1 (T k).2.2.1 ∈ Ts) {v : Value} (hv : fs[k]? = some v) (hdg : decode cc pc = .ok (.getfield index, 3))
    (kk : W p l e R s m args below meth c H locs cells slots Q (F0 m (pc + 3) ls (v :: rest))) : W p l e R s m args below meth c H locs cells slots Q (F0 m pc ls (.ref a :: rest)) := by
  subst ha
  exact x_get X hW hi hg hc hin k hk hl hv hdg kk
theorem xc_put (X : CallFix p m c cc nL s args Ts own) (hW : wH E F A n s g H locs) {a : Nat} (ha : a = A i) {ci : Nat} {fs : List Value} (hi : i < n) (hg : g i = .inr (ci, fs)) {C : String} {T : u_T} {N : Nat} (hc : vwCl[ci]? = some (C, T, N)) (hin : ∀ w ∈ u_ws C T N, w ∈ Ts) (ty0 : Nat → FieldType) (hty : ∀ k, k < N → parseFieldDescriptor (T k).2.2.1 = some (ty0 k)) (hnm : ∀ a, a < N → ∀ b, b < N → a ≠ b → (T a).2.1 ≠ (T b).2.1) (k : Nat) (hk : k < N) {index : Nat} (hl : Cond.fieldLink own index (T k).1 (T k).2.1 (T k).2.2.1 ∈ Ts) (hfin : (T k).2.2.2 = false) {v : Value} (hn : narrow (ty0 k) v = v) (hfit : fits (ty0 k) v = true) (hlen : k < fs.length) (hdg : decode cc pc = .ok (.putfield index, 3))
    (kk : ∀ (g' : Nat → va_E) (H1 : Heap) (locs1 : List Loc), g' i = .inr (ci, fs.set k v) → (∀ k, k ≠ i → g' k = g k) → wH E F A n s g' H1 locs1 → W p l e R s m args below meth c H1 locs1 cells slots Q (F0 m (pc + 3) ls rest)) : W p l e R s m args below meth c H locs cells slots Q (F0 m pc ls (v :: .ref a :: rest)) := by
  subst ha
  refine x_put X hW hi hg hc hin ty0 hty hnm k hk hl hfin hn hfit hlen hdg (fun g' H1 locs1 e1 hW1 => ?_)
  subst e1
  exact kk _ H1 locs1 (va_up_self _ _ _) (fun k hk => va_up_ne _ _ hk) hW1
theorem xc_putF (X : CallFix p m c cc nL s args Ts own) (hnm0 : meth.name = "<init>") (hW : wH E F A n s g H locs) {a : Nat} (ha : a = A i) {ci : Nat} {fs : List Value} (hi : i < n) (hg : g i = .inr (ci, fs)) {C : String} {T : u_T} {N : Nat} (hc : vwCl[ci]? = some (C, T, N)) (hin : ∀ w ∈ u_ws C T N, w ∈ Ts) (ty0 : Nat → FieldType) (hty : ∀ k, k < N → parseFieldDescriptor (T k).2.2.1 = some (ty0 k)) (hnm : ∀ a, a < N → ∀ b, b < N → a ≠ b → (T a).2.1 ≠ (T b).2.1) (k : Nat) (hk : k < N) {index : Nat} (hl : Cond.fieldLink own index (T k).1 (T k).2.1 (T k).2.2.1 ∈ Ts) (hfin : (T k).2.2.2 = true) (hdecl : (T k).1 = own) {v : Value} (hn : narrow (ty0 k) v = v) (hfit : fits (ty0 k) v = true) (hlen : k < fs.length) (hdg : decode cc pc = .ok (.putfield index, 3))
    (kk : ∀ (g' : Nat → va_E) (H1 : Heap) (locs1 : List Loc), g' i = .inr (ci, fs.set k v) → (∀ k, k ≠ i → g' k = g k) → wH E F A n s g' H1 locs1 → W p l e R s m args below meth c H1 locs1 cells slots Q (F0 m (pc + 3) ls rest)) : W p l e R s m args below meth c H locs cells slots Q (F0 m pc ls (v :: .ref a :: rest)) := by
  subst ha
  refine x_putF X hnm0 hW hi hg hc hin ty0 hty hnm k hk hl hfin hdecl hn hfit hlen hdg (fun g' H1 locs1 e1 hW1 => ?_)
  subst e1
  exact kk _ H1 locs1 (va_up_self _ _ _) (fun k hk => va_up_ne _ _ hk) hW1
/-! a constructor's call -/
section CallC
variable {y : MethodName} {bytes : ByteArray} {maxL k index mc ms n' : Nat} {ws ws' : List Cond} {rm : Room} {post : (Nat → Nat) × (Nat → va_E) → Prop}
theorem x_cI (X : CallFix p m c cc nL s args Ts own) (hW : wH E F A n s g H locs) (hO : wO s) {a : Nat} (ha : a = A i) (hM : Met l y ws rm (va_Pc [.ref (A i)] (wPreC E A n H.size g)) (va_Qv post (wAtC E (wF A n H.size) n') (wF A n H.size)) mc ms (wF A n H.size)) (hG : GoodIn Ts ws) (hw : ws = Cond.code y bytes maxL none :: ws') (hrc : rm.cells = mc) (hrs : rm.slots = ms) (hini : Cond.initialized y.cls ∈ Ts) (hl : Cond.methodLink own index y ∈ Ts) (hin : Cond.instanceMethod y ∈ Ts) (hy1 : y.name = "<init>")
    (hd : y.cls ≠ "java/lang/invoke/MethodHandle" ∧ y.cls ≠ "java/lang/invoke/VarHandle" ∧ (parseMethodDescriptor y.desc).map (fun d => d.parameters.length) = some 0) (hR : rm.frames + 1 ≤ R.frames ∧ 8 + (maxL + 11) + rm.locals ≤ R.locals) (hls : ls.size = nL) (hrest : (rest.map fun v => v.category).sum ≤ 8) (hdg : decode cc pc = .ok (.invokespecial index, 3)) (hcs : cells + mc ≤ R.cells ∧ slots + ms ≤ R.slots)
    (kk : ∀ (A' : Nat → Nat) (g' : Nat → va_E) (H1 : Heap) (locs1 : List Loc), post (A', g') → wH E F A' n' s g' H1 locs1 → W p l e R s m args below meth c H1 locs1 (cells + mc) (slots + ms) Q (F0 m (pc + 3) ls rest)) : W p l e R s m args below meth c H locs cells slots Q (F0 m pc ls (.ref a :: rest)) := by
  subst ha
  refine va_callv (va_runI (As := []) (rest := rest) X hM (cwI 0 X.2.2.2.2 hG hw hrc hrs (X.2.2.2.2 _ hini) (X.2.2.2.2 _ hl) (X.2.2.2.2 _ hin) hy1 hd hR) ⟨wPreC_blind, wH_preC hW hO _⟩ rfl rfl hls rfl (lv_room hrest) hdg hcs) hW.2.2.1 (fun q _ h => wH_F hW q h) (wH_F hW) (fun u t H1 locs1 ht _ hp hB _ _ hS => ?_)
  obtain ⟨A', g'⟩ := u
  obtain ⟨hP, hD⟩ := hB
  rw [ht] at hP
  exact kk A' g' H1 locs1 hp ⟨hP, hD.weaken (fun _ _ _ h => wH_F hW _ h), hS, hW.2.2.2⟩
theorem x_cIN (X : CallFix p m c cc nL s args Ts own) (hW : wH E F A n s g H locs) (hO : wO s) {a : Nat} (ha : a = A i) (hM : Met l y ws rm (va_Pc [.ref (A i)] (wPreC E A n H.size g)) (va_Qv post (wAtC E (wF A n H.size) n') (wF A n H.size)) mc ms (wF A n H.size)) (hG : GoodIn Ts ws) (hw : ws = Cond.code y bytes maxL none :: ws') (hrc : rm.cells = mc) (hrs : rm.slots = ms) (hNs : (own, index, y) ∈ wNs) (hini : Cond.initialized y.cls ∈ Ts) (hin : Cond.instanceMethod y ∈ Ts) (hy1 : y.name = "<init>")
    (hd : y.cls ≠ "java/lang/invoke/MethodHandle" ∧ y.cls ≠ "java/lang/invoke/VarHandle" ∧ (parseMethodDescriptor y.desc).map (fun d => d.parameters.length) = some 0) (hR : rm.frames + 1 ≤ R.frames ∧ 8 + (maxL + 11) + rm.locals ≤ R.locals) (hls : ls.size = nL) (hrest : (rest.map fun v => v.category).sum ≤ 8) (hdg : decode cc pc = .ok (.invokespecial index, 3)) (hcs : cells + mc ≤ R.cells ∧ slots + ms ≤ R.slots)
    (kk : ∀ (A' : Nat → Nat) (g' : Nat → va_E) (H1 : Heap) (locs1 : List Loc), post (A', g') → wH E F A' n' s g' H1 locs1 → W p l e R s m args below meth c H1 locs1 (cells + mc) (slots + ms) Q (F0 m (pc + 3) ls rest)) : W p l e R s m args below meth c H locs cells slots Q (F0 m pc ls (.ref a :: rest)) := by
  subst ha
  refine va_callv (va_runIN (As := []) (rest := rest) X hM ⟨va_cnB 0 X.2.2.2.2 hG hw hrc hrs (hW.2.2.2.2.1 _ hNs) (X.2.2.2.2 _ hini) hd hR, hy1, X.2.2.2.2 _ hin⟩ ⟨wPreC_blind, wH_preC hW hO _⟩ rfl rfl hls rfl (lv_room hrest) hdg hcs) hW.2.2.1 (fun q _ h => wH_F hW q h) (wH_F hW) (fun u t H1 locs1 ht _ hp hB _ _ hS => ?_)
  obtain ⟨A', g'⟩ := u
  obtain ⟨hP, hD⟩ := hB
  rw [ht] at hP
  exact kk A' g' H1 locs1 hp ⟨hP, hD.weaken (fun _ _ _ h => wH_F hW _ h), hS, hW.2.2.2⟩
end CallC
end
