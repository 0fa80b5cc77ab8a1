section
variable {p : Program} {l : Launch} {e : Env} {R : Room} {s : State} {m : MethodId} {args : Array Value} {below : List Frame} {meth : Method} {c : Code} {H : Heap} {locs : List Loc} {cells slots : Nat} {Q : State → Prop} {cc : ByteArray} {nL : Nat} {Ts : List Cond} {own : String} {pc : Nat} {ls : Array Slot} {rest st0 : List Value} {E : wE} {F : Nat → Prop} {A : Nat → Nat} {n i : Nat} {g : Nat → va_E}
theorem x_iald (X : CallFix p m c cc nL s args Ts own) (hW : wH E F A n s g H locs) {N : Nat} {f : Nat → Int32} (hi : i < n) (hg : g i = aI E N f) {z : Int} {v : Int32} (k : Nat) (hz : z = (k : Int)) (hk : k < N) (hN : N < 2 ^ 31) (hv : f k = v) (hdg : decode cc pc = .ok (.iaload, 1))
    (kk : W p l e R s m args below meth c H locs cells slots Q (F0 m (pc + 1) ls (.int v :: rest))) : W p l e R s m args below meth c H locs cells slots Q (F0 m pc ls (.int (iI z) :: .ref (A i) :: rest)) := by
  subst hz
  rw [← nI_iI]
  refine va_iald X.1 X.2.1 hW.2.2.2.1 hW.1 i 0 (wW_get hi hg) rfl (vp_in_nI hk hN) hdg ?_
  rw [nI_clamp (by omega), hv]
  exact kk
theorem x_iast (X : CallFix p m c cc nL s args Ts own) (hW : wH E F A n s g H locs) {N : Nat} {f : Nat → Int32} (hi : i < n) (hg : g i = aI E N f) {z : Int} {v : Int32} (k : Nat) (hz : z = (k : Int)) (hk : k < N) (hN : N < 2 ^ 31) (hdg : decode cc pc = .ok (.iastore, 1))
    (kk : ∀ (g' : Nat → va_E) (H1 : Heap) (locs1 : List Loc), g' = va_up g i (aI E N (upd f k v)) → wH E F A n s g' H1 locs1 → W p l e R s m args below meth c H1 locs1 cells slots Q (F0 m (pc + 1) ls rest)) : W p l e R s m args below meth c H locs cells slots Q (F0 m pc ls (.int v :: .int (iI z) :: .ref (A i) :: rest)) := by
  subst hz
  rw [← nI_iI]
  refine va_iast X.1 X.2.1 hW.2.2.2.1 hW.1 hW.2.1 hW.2.2.1 i 0 (wW_get hi hg) rfl (vp_in_nI hk hN) hdg (fun H1 locs1 hP _ hS => kk _ H1 locs1 rfl ?_)
  rw [nI_clamp (by omega)] at hP
  exact wH_set hW hP hS
theorem x_lald (X : CallFix p m c cc nL s args Ts own) (hW : wH E F A n s g H locs) {N : Nat} {f : Nat → Int64} (hi : i < n) (hg : g i = aJ E N f) {z : Int} {v : Int64} (k : Nat) (hz : z = (k : Int)) (hk : k < N) (hN : N < 2 ^ 31) (hv : f k = v) (hdg : decode cc pc = .ok (.laload, 1))
    (kk : W p l e R s m args below meth c H locs cells slots Q (F0 m (pc + 1) ls (.long v :: rest))) : W p l e R s m args below meth c H locs cells slots Q (F0 m pc ls (.int (iI z) :: .ref (A i) :: rest)) := by
  subst hz
  rw [← nI_iI]
  refine va_lald X.1 X.2.1 hW.2.2.2.1 hW.1 i 1 (wW_get hi hg) rfl (vp_in_nI hk hN) hdg ?_
  rw [nI_clamp (by omega), hv]
  exact kk
theorem x_last (X : CallFix p m c cc nL s args Ts own) (hW : wH E F A n s g H locs) {N : Nat} {f : Nat → Int64} (hi : i < n) (hg : g i = aJ E N f) {z : Int} {v : Int64} (k : Nat) (hz : z = (k : Int)) (hk : k < N) (hN : N < 2 ^ 31) (hdg : decode cc pc = .ok (.lastore, 1))
    (kk : ∀ (g' : Nat → va_E) (H1 : Heap) (locs1 : List Loc), g' = va_up g i (aJ E N (vp_updL f k v)) → wH E F A n s g' H1 locs1 → W p l e R s m args below meth c H1 locs1 cells slots Q (F0 m (pc + 1) ls rest)) : W p l e R s m args below meth c H locs cells slots Q (F0 m pc ls (.long v :: .int (iI z) :: .ref (A i) :: rest)) := by
  subst hz
  rw [← nI_iI]
  refine va_last X.1 X.2.1 hW.2.2.2.1 hW.1 hW.2.1 hW.2.2.1 i 1 (wW_get hi hg) rfl (vp_in_nI hk hN) hdg (fun H1 locs1 hP _ hS => kk _ H1 locs1 rfl ?_)
  rw [nI_clamp (by omega)] at hP
  exact wH_set hW hP hS
theorem x_aald (X : CallFix p m c cc nL s args Ts own) (hW : wH E F A n s g H locs) {t N : Nat} {f : Nat → Option Nat} (hi : i < n) (hg : g i = aR E t N f) {C : String} (ht : (eT E)[t]? = some (E.2.1 t, .object C)) {z : Int} {j : Nat} (k : Nat) (hz : z = (k : Int)) (hk : k < N) (hN : N < 2 ^ 31) (hv : f k = some (A j)) (hdg : decode cc pc = .ok (.aaload, 1))
    (kk : W p l e R s m args below meth c H locs cells slots Q (F0 m (pc + 1) ls (.ref (A j) :: rest))) : W p l e R s m args below meth c H locs cells slots Q (F0 m pc ls (.int (iI z) :: .ref (A i) :: rest)) := by
  subst hz
  rw [← nI_iI]
  refine va_aldq X.1 X.2.1 hW.2.2.2.1 hW.1 i t (wW_get hi hg) ht (vp_in_nI hk hN) hdg ?_
  rw [nI_clamp (by omega), hv]
  exact kk
theorem x_aast (X : CallFix p m c cc nL s args Ts own) (hW : wH E F A n s g H locs) {t N : Nat} {f : Nat → Option Nat} (hi : i < n) (hg : g i = aR E t N f) {r : vw_C} (ht : (eT E)[t]? = some (E.2.1 t, .object r.1)) {z : Int} {j ci : Nat} {vs : List Value} (hj : j < n) (hv : g j = .inr (ci, vs)) (hc : vwCl[ci]? = some r) (k : Nat) (hz : z = (k : Int)) (hk : k < N) (hN : N < 2 ^ 31) (hdg : decode cc pc = .ok (.aastore, 1))
    (kk : ∀ (g' : Nat → va_E) (H1 : Heap) (locs1 : List Loc), g' = va_up g i (aR E t N (va_up f k (some (A j)))) → wH E F A n s g' H1 locs1 → W p l e R s m args below meth c H1 locs1 cells slots Q (F0 m (pc + 1) ls rest)) : W p l e R s m args below meth c H locs cells slots Q (F0 m pc ls (.ref (A j) :: .int (iI z) :: .ref (A i) :: rest)) := by
  subst hz
  rw [← nI_iI]
  refine va_astq X.1 X.2.1 hW.2.2.2.1 hW.1 hW.2.1 hW.2.2.1 i t j ci (wW_get hi hg) ht (wW_get hj hv) hc (vp_in_nI hk hN) hdg (fun H1 locs1 hP _ hS => kk _ H1 locs1 rfl ?_)
  rw [nI_clamp (by omega)] at hP
  exact wH_set hW hP hS
theorem x_alen (X : CallFix p m c cc nL s args Ts own) (hW : wH E F A n s g H locs) {t N : Nat} {xx : (Nat → Int32) ⊕ (Nat → Int64) ⊕ (Nat → UInt32) ⊕ (Nat → UInt64) ⊕ (Nat → Option Nat)} (hi : i < n) (hg : g i = .inl (E.2.1 t, N, xx)) {ty : FieldType} (ht : (eT E)[t]? = some (E.2.1 t, ty)) (hdg : decode cc pc = .ok (.arraylength, 1))
    (kk : W p l e R s m args below meth c H locs cells slots Q (F0 m (pc + 1) ls (.int (iI (N : Int)) :: rest))) : W p l e R s m args below meth c H locs cells slots Q (F0 m pc ls (.ref (A i) :: rest)) :=
  va_alen X.1 X.2.1 hW.2.2.2.1 hW.1 i t (wW_get hi hg) ht (nI_iI N) hdg kk
end
