/-! ===== limbs: what a carry does ===== -/
def ps (x : Nat → Int) : Nat → Int
  | 0 => 0
  | k + 1 => ps x k + x k * 1000000000 ^ k
theorem bpI (k : Nat) : (0 : Int) < 1000000000 ^ k := Int.pow_pos (by decide)
theorem ps_far (x : Nat → Int) (k d : Nat) : ∃ r : Int, ps x (k + 1 + d) = ps x (k + 1) + 1000000000 ^ (k + 1) * r := by
  induction d with
  | zero => exact ⟨0, by rw [Int.mul_zero, Int.add_zero]⟩
  | succ d ih =>
    obtain ⟨r, hr⟩ := ih
    refine ⟨r + x (k + 1 + d) * 1000000000 ^ d, ?_⟩
    show ps x (k + 1 + d) + x (k + 1 + d) * 1000000000 ^ (k + 1 + d) = _
    rw [hr, Int.mul_add, Int.pow_add (1000000000 : Int) (k + 1) d, Int.mul_left_comm, Int.add_assoc]
theorem ps_here (x : Nat → Int) (k : Nat) : ps x (k + 1) / 1000000000 ^ k = ps x k / 1000000000 ^ k + x k := by
  show (ps x k + x k * 1000000000 ^ k) / 1000000000 ^ k = _
  exact Int.add_mul_ediv_right _ _ (Int.ne_of_gt (bpI k))
theorem ps_dig (x : Nat → Int) {k m : Nat} (h : k < m) : (ps x k / 1000000000 ^ k + x k) % 1000000000 = ps x m / 1000000000 ^ k % 1000000000 := by
  obtain ⟨r, hr⟩ := ps_far x k (m - (k + 1))
  rw [show k + 1 + (m - (k + 1)) = m from by omega] at hr
  rw [hr, ← ps_here, Int.pow_succ, Int.mul_assoc, Int.add_mul_ediv_left _ _ (Int.ne_of_gt (bpI k)), Int.add_mul_emod_self_left]
theorem ps_next (x : Nat → Int) (k : Nat) : (ps x k / 1000000000 ^ k + x k) / 1000000000 = ps x (k + 1) / 1000000000 ^ (k + 1) := by
  rw [← ps_here, Int.pow_succ, Int.ediv_ediv_of_nonneg (Int.le_of_lt (bpI k))]
theorem ps_0 (x : Nat → Int) : ps x 0 / 1000000000 ^ 0 = 0 := rfl
/-- a carry is small where the limbs are -/
theorem ps_bound {x : Nat → Int} {M : Int} (hM : 0 ≤ M) (k : Nat) (h : ∀ j, j < k → -M ≤ x j ∧ x j ≤ M) : -(M / 999999999 + 1) ≤ ps x k / 1000000000 ^ k ∧ ps x k / 1000000000 ^ k ≤ M / 999999999 + 1 := by
  induction k with
  | zero => rw [ps_0]; omega
  | succ k ih =>
    have h1 := ih (fun j hj => h j (by omega))
    have h2 := h k (by omega)
    rw [← ps_next]
    omega
theorem ps_congr {x y : Nat → Int} (k : Nat) (h : ∀ j, j < k → x j = y j) : ps x k = ps y k := by
  induction k with
  | zero => rfl
  | succ k ih =>
    show ps x k + x k * _ = ps y k + y k * _
    rw [ih (fun j hj => h j (by omega)), h k (by omega)]
theorem ps_lin (x y : Nat → Int) (t : Int) (k : Nat) : ps (fun j => x j + y j * t) k = ps x k + ps y k * t := by
  induction k with
  | zero => show (0 : Int) = 0 + 0 * t; rw [Int.zero_mul]; rfl
  | succ k ih =>
    show ps (fun j => x j + y j * t) k + (x k + y k * t) * 1000000000 ^ k = (ps x k + x k * 1000000000 ^ k) + (ps y k + y k * 1000000000 ^ k) * t
    rw [ih, Int.add_mul, Int.add_mul, Int.mul_right_comm (y k) t]
    omega
/-- the limbs of a number: nine below, the rest on top -/
def lm (v : Int) (k : Nat) : Int := if k < 9 then v / 1000000000 ^ k % 1000000000 else v / 1000000000 ^ k
theorem ps_dg (v : Int) (k : Nat) : ps (fun j => v / 1000000000 ^ j % 1000000000) k = v % 1000000000 ^ k := by
  induction k with
  | zero => show (0 : Int) = v % 1; omega
  | succ k ih =>
    show ps _ k + v / 1000000000 ^ k % 1000000000 * 1000000000 ^ k = _
    rw [ih, Int.pow_succ]
    have e1 := Int.mul_ediv_add_emod v (1000000000 ^ k)
    have e2 := Int.mul_ediv_add_emod (v / 1000000000 ^ k) 1000000000
    have e3 := Int.mul_ediv_add_emod v (1000000000 ^ k * 1000000000)
    rw [← Int.ediv_ediv_of_nonneg (Int.le_of_lt (bpI k))] at e3
    generalize v / 1000000000 ^ k / 1000000000 = q at *
    generalize v / 1000000000 ^ k % 1000000000 = r at *
    generalize v / 1000000000 ^ k = a at *
    have e4 : 1000000000 ^ k * a = 1000000000 ^ k * 1000000000 * q + r * 1000000000 ^ k := by rw [← e2, Int.mul_add, Int.mul_assoc, Int.mul_comm r]
    omega
theorem ps_lm (v : Int) : ps (lm v) 10 = v := by
  show ps (lm v) 9 + lm v 9 * 1000000000 ^ 9 = v
  rw [ps_congr 9 (y := fun j => v / 1000000000 ^ j % 1000000000) (fun j hj => by unfold lm; rw [if_pos hj]), ps_dg]
  unfold lm
  rw [if_neg (by omega)]
  have := Int.mul_ediv_add_emod v (1000000000 ^ 9)
  rw [Int.mul_comm] at this
  omega
theorem lm_rng {v : Int} (h1 : -(1000000000 ^ 10) ≤ v) (h2 : v < 1000000000 ^ 10) (k : Nat) (hk : k < 10) : -1000000000 ≤ lm v k ∧ lm v k < 1000000000 := by
  unfold lm
  by_cases h : k < 9
  · rw [if_pos h]; omega
  · obtain rfl : k = 9 := by omega
    rw [if_neg h]
    constructor
    · apply Int.le_ediv_of_mul_le (bpI 9)
      have : (-1000000000 : Int) * 1000000000 ^ 9 = -(1000000000 ^ 10) := by decide
      omega
    · apply Int.ediv_lt_of_lt_mul (bpI 9)
      have : (1000000000 : Int) * 1000000000 ^ 9 = 1000000000 ^ 10 := by decide
      omega
section
variable {p : Program} {l : Launch} {e : Env} {R : Room} {s : State} {m : MethodId} {args : Array Value} {below : List Frame} {meth : Method} {c : Code} {H : Heap} {locs : List Loc} {cells slots : Nat} {Q : State → Prop} {cc : ByteArray} {nL : Nat} {Ts : List Cond} {own : String} {pc : Nat} {ls : Array Slot} {rest st0 : List Value} {E : wE} {F : Nat → Prop} {A : Nat → Nat} {n i : Nat} {g : Nat → va_E}
theorem x_topi {x : Int32} (y : Int32) (h : x = y) (k : W p l e R s m args below meth c H locs cells slots Q (F0 m pc ls (.int y :: rest))) : W p l e R s m args below meth c H locs cells slots Q (F0 m pc ls (.int x :: rest)) := h ▸ k
theorem x_topl {x : Int64} (y : Int64) (h : x = y) (k : W p l e R s m args below meth c H locs cells slots Q (F0 m pc ls (.long y :: rest))) : W p l e R s m args below meth c H locs cells slots Q (F0 m pc ls (.long x :: rest)) := h ▸ k
theorem x_ldivT (X : CallFix p m c cc nL s args Ts own) {a b : Int} (ha : I64 a) (hb : I64 b) (h1 : 0 < b) (hdg : decode cc pc = .ok (.ldiv, 1)) (k : W p l e R s m args below meth c H locs cells slots Q (F0 m (pc + 1) ls (.long (lI (a.tdiv b)) :: rest))) : W p l e R s m args below meth c H locs cells slots Q (F0 m pc ls (.long (lI b) :: .long (lI a) :: rest)) := lv_ldiv X.1 X.2.1 hdg (fun h => absurd ((lI_eq (b := 0) hb I64_0).mp h) (by omega)) (lI_tdiv ha hb (by omega) (by omega) ▸ k)
theorem x_lremT (X : CallFix p m c cc nL s args Ts own) {a b : Int} (ha : I64 a) (hb : I64 b) (h1 : 0 < b) (hdg : decode cc pc = .ok (.lrem, 1)) (k : W p l e R s m args below meth c H locs cells slots Q (F0 m (pc + 1) ls (.long (lI (a.tmod b)) :: rest))) : W p l e R s m args below meth c H locs cells slots Q (F0 m pc ls (.long (lI b) :: .long (lI a) :: rest)) := lv_lrem X.1 X.2.1 hdg (fun h => absurd ((lI_eq (b := 0) hb I64_0).mp h) (by omega)) (by
  have e1 : lI a - lI a / lI b * lI b = lI (a.tmod b) := by
    rw [lI_tdiv ha hb (by omega) (by omega), lI_mul, lI_sub]
    congr 1
    have := Int.mul_tdiv_add_tmod a b
    rw [Int.mul_comm] at this
    omega
  rw [e1]; exact k)
theorem x_mmaxl (X : CallFix p m c cc nL s args Ts own) {a b : Int} {index : Nat} (hls : ls.size = nL) (ha : I64 a) (hb : I64 b) (h1 : Cond.methodLink own index Lib.MathLoose.max_long.x ∈ Ts) (h2 : Cond.static Lib.MathLoose.max_long.x ∈ Ts) (h3 : Cond.initialized "java/lang/Math" ∈ Ts) (h4 : Cond.code Lib.MathLoose.max_long.x Lib.MathLoose.max_long.code 4 (some .long) ∈ Ts) (hf : 1 ≤ R.frames) (hr : (rest.map fun v => v.category).sum + 15 ≤ R.locals) (hc : cells ≤ R.cells) (hs : slots ≤ R.slots) (hdg : decode cc pc = .ok (.invokestatic index, 3)) (k : W p l e R s m args below meth c H locs cells slots Q (F0 m (pc + 3) ls (.long (lI (if b < a then a else b)) :: rest))) : W p l e R s m args below meth c H locs cells slots Q (F0 m pc ls (.long (lI b) :: .long (lI a) :: rest)) :=
  va_mmax_long X.1 X.2.1 (X.2.2.1.trans hls.symm) X.2.2.2.1 (X.2.2.2.2 _ h1) (X.2.2.2.2 _ h2) (X.2.2.2.2 _ h3) (X.2.2.2.2 _ h4) hf hr hc hs hdg (by
    have e1 : (if lI b < lI a then lI a else lI b) = lI (if b < a then a else b) := by
      by_cases h : b < a
      · rw [if_pos h, if_pos ((lI_lt hb ha).mpr h)]
      · rw [if_neg h, if_neg (fun q => h ((lI_lt hb ha).mp q))]
    rw [e1]; exact k)
theorem x_mabsl (X : CallFix p m c cc nL s args Ts own) {a : Int} {index : Nat} (hls : ls.size = nL) (ha : I64 a) (h1 : Cond.methodLink own index Lib.MathLoose.abs_long.x ∈ Ts) (h2 : Cond.static Lib.MathLoose.abs_long.x ∈ Ts) (h3 : Cond.initialized "java/lang/Math" ∈ Ts) (h4 : Cond.code Lib.MathLoose.abs_long.x Lib.MathLoose.abs_long.code 2 (some .long) ∈ Ts) (hf : 1 ≤ R.frames) (hr : (rest.map fun v => v.category).sum + 13 ≤ R.locals) (hc : cells ≤ R.cells) (hs : slots ≤ R.slots) (hdg : decode cc pc = .ok (.invokestatic index, 3)) (k : W p l e R s m args below meth c H locs cells slots Q (F0 m (pc + 3) ls (.long (lI ((a.natAbs : Nat) : Int)) :: rest))) : W p l e R s m args below meth c H locs cells slots Q (F0 m pc ls (.long (lI a) :: rest)) :=
  va_mabs_long X.1 X.2.1 (X.2.2.1.trans hls.symm) X.2.2.2.1 (X.2.2.2.2 _ h1) (X.2.2.2.2 _ h2) (X.2.2.2.2 _ h3) (X.2.2.2.2 _ h4) hf hr hc hs hdg (by
    have e1 : (if 0 < lI a then lI a else -lI a) = lI ((a.natAbs : Nat) : Int) := by
      by_cases h : 0 < a
      · rw [if_pos (by rw [← lI_0]; exact (lI_lt I64_0 ha).mpr h)]; congr 1; omega
      · rw [if_neg (fun q => h ((lI_lt I64_0 ha).mp (by rw [lI_0]; exact q))), lI_neg]; congr 1; omega
    rw [e1]; exact k)
theorem x_mmini (X : CallFix p m c cc nL s args Ts own) {a b : Int} {index : Nat} (hls : ls.size = nL) (ha : I32 a) (hb : I32 b) (h1 : Cond.methodLink own index Lib.Math.min.name ∈ Ts) (h2 : Cond.static Lib.Math.min.name ∈ Ts) (h3 : Cond.initialized "java/lang/Math" ∈ Ts) (h4 : Cond.code Lib.Math.min.name Lib.Math.min.code 2 (some .int) ∈ Ts) (hf : 1 ≤ R.frames) (hr : (rest.map fun v => v.category).sum + 13 ≤ R.locals) (hc : cells ≤ R.cells) (hs : slots ≤ R.slots) (hdg : decode cc pc = .ok (.invokestatic index, 3)) (k : W p l e R s m args below meth c H locs cells slots Q (F0 m (pc + 3) ls (.int (iI (if b < a then b else a)) :: rest))) : W p l e R s m args below meth c H locs cells slots Q (F0 m pc ls (.int (iI b) :: .int (iI a) :: rest)) :=
  va_mmin X.1 X.2.1 (X.2.2.1.trans hls.symm) X.2.2.2.1 (X.2.2.2.2 _ h1) (X.2.2.2.2 _ h2) (X.2.2.2.2 _ h3) (X.2.2.2.2 _ h4) hf hr hc hs hdg (by
    have e1 : (if iI b < iI a then iI b else iI a) = iI (if b < a then b else a) := by
      by_cases h : b < a
      · rw [if_pos h, if_pos ((iI_lt hb ha).mpr h)]
      · rw [if_neg h, if_neg (fun q => h ((iI_lt hb ha).mp q))]
    rw [e1]; exact k)
theorem x_mmaxi (X : CallFix p m c cc nL s args Ts own) {a b : Int} {index : Nat} (hls : ls.size = nL) (ha : I32 a) (hb : I32 b) (h1 : Cond.methodLink own index Lib.Math.max.name ∈ Ts) (h2 : Cond.static Lib.Math.max.name ∈ Ts) (h3 : Cond.initialized "java/lang/Math" ∈ Ts) (h4 : Cond.code Lib.Math.max.name Lib.Math.max.code 2 (some .int) ∈ Ts) (hf : 1 ≤ R.frames) (hr : (rest.map fun v => v.category).sum + 13 ≤ R.locals) (hc : cells ≤ R.cells) (hs : slots ≤ R.slots) (hdg : decode cc pc = .ok (.invokestatic index, 3)) (k : W p l e R s m args below meth c H locs cells slots Q (F0 m (pc + 3) ls (.int (iI (if a < b then b else a)) :: rest))) : W p l e R s m args below meth c H locs cells slots Q (F0 m pc ls (.int (iI b) :: .int (iI a) :: rest)) :=
  va_mmax X.1 X.2.1 (X.2.2.1.trans hls.symm) X.2.2.2.1 (X.2.2.2.2 _ h1) (X.2.2.2.2 _ h2) (X.2.2.2.2 _ h3) (X.2.2.2.2 _ h4) hf hr hc hs hdg (by
    have e1 : (if iI a < iI b then iI b else iI a) = iI (if a < b then b else a) := by
      by_cases h : a < b
      · rw [if_pos h, if_pos ((iI_lt ha hb).mpr h)]
      · rw [if_neg h, if_neg (fun q => h ((iI_lt ha hb).mp q))]
    rw [e1]; exact k)
/-- the parts of one Natural over those of another -/
theorem x_copy6 (X : CallFix p m c cc nL s args Ts own) (hW : wH E F A n s g H locs) {j index : Nat} {f h : Nat → Int32} (hls : ls.size = nL) (hi : i < n) (hj : j < n) (hg : g i = aI E 6 f) (hg2 : g j = aI E 6 h) (h1 : Cond.methodLink own index arraycopyName ∈ Ts) (h2 : Cond.native arraycopyName ∈ Ts) (h3 : Cond.static arraycopyName ∈ Ts) (h4 : Cond.initialized "java/lang/System" ∈ Ts) (hf : 1 ≤ R.frames) (hr : (rest.map fun v => v.category).sum + (nativeFrameWords "java/lang/System" "arraycopy" 5 + 11) ≤ R.locals) (hdg : decode cc pc = .ok (.invokestatic index, 3))
    (k : ∀ (g' : Nat → va_E) (H1 : Heap) (locs1 : List Loc), g' = va_up g j (aI E 6 (va_cpy f h 0 0 6)) → wH E F A n s g' H1 locs1 → W p l e R s m args below meth c H1 locs1 cells slots Q (F0 m (pc + 3) ls rest)) : W p l e R s m args below meth c H locs cells slots Q (F0 m pc ls (.int (iI 6) :: .int (iI 0) :: .ref (A j) :: .int (iI 0) :: .ref (A i) :: rest)) :=
  va_copyi (ty := .int) X.1 X.2.1 (X.2.2.1.trans hls.symm) X.2.2.2.1 (X.2.2.2.2 _ h1) (X.2.2.2.2 _ h2) (X.2.2.2.2 _ h3) (X.2.2.2.2 _ h4) hW.2.2.2.1 hW.1 hW.2.1 hW.2.2.1 i j 0 0 (wW_get hi hg) (wW_get hj hg2) rfl rfl rfl (by decide) (by decide) (by decide) (by decide) (by decide) (fun _ _ => rfl) hf hr hdg (fun H1 locs1 hP _ hS => k _ H1 locs1 rfl (wH_set hW hP hS))
end
theorem lx_neg {a b : Int} (ha : I64 a) (hb : I64 b) (h1 : 0 < b) : ((lI a ^^^ lI b).toInt < 0) ↔ a < 0 := by
  have k1 : ∀ x : Int64, x.toInt < 0 ↔ x.toBitVec.msb = true := fun x => by
    rw [show x.toInt = x.toBitVec.toInt from rfl, BitVec.toInt_neg_iff, BitVec.msb_eq_decide]
    simp
    omega
  rw [k1, Int64.toBitVec_xor, BitVec.msb_xor]
  have ea := k1 (lI a); rw [lI_toInt ha] at ea
  have eb := k1 (lI b); rw [lI_toInt hb] at eb
  have hb2 : (lI b).toBitVec.msb = false := by
    cases h : (lI b).toBitVec.msb
    · rfl
    · exact absurd (eb.mpr h) (by omega)
  rw [hb2, Bool.xor_false]
  exact ea.symm
theorem fd_neg {a b : Int} (hb : 0 < b) (ha : a < 0) (h : ¬ a.tdiv b * b = a) : a.tdiv b - 1 = a / b := by
  have hd : ¬ b ∣ a := fun q => h (by rw [Int.mul_comm]; exact Int.mul_tdiv_cancel' q)
  rw [Int.tdiv_eq_ediv, if_neg (by intro q; rcases q with q | q; omega; exact hd q), Int.sign_eq_one_of_pos hb]
  omega
theorem fd_dvd {a b : Int} (h : a.tdiv b * b = a) : a.tdiv b = a / b := by
  have hd : b ∣ a := ⟨a.tdiv b, by rw [Int.mul_comm]; exact h.symm⟩
  rw [Int.tdiv_eq_ediv, if_pos (Or.inr hd), Int.add_zero]
theorem fm_neg {a b : Int} (hb : 0 < b) (ha : a < 0) (h : ¬ a.tmod b = 0) : a.tmod b + b = a % b := by
  have hd : ¬ b ∣ a := fun q => h (Int.tmod_eq_zero_of_dvd q)
  rw [Int.tmod_eq_emod, if_neg (by intro q; rcases q with q | q; omega; exact hd q)]
  omega
theorem fm_dvd {a b : Int} (h : a.tmod b = 0) : a.tmod b = a % b := by
  have hd : b ∣ a := Int.dvd_of_tmod_eq_zero h
  rw [h, Int.emod_eq_zero_of_dvd hd]
