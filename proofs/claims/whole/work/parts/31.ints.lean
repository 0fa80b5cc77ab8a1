/-! ===== ints and longs by their whole numbers ===== -/
def iI (z : Int) : Int32 := Int32.ofInt z
def lI (z : Int) : Int64 := Int64.ofInt z
def I32 (z : Int) : Prop := -2147483648 ≤ z ∧ z < 2147483648
def I64 (z : Int) : Prop := -9223372036854775808 ≤ z ∧ z < 9223372036854775808
theorem iI_toInt {z : Int} (h : I32 z) : (iI z).toInt = z := Int32.toInt_ofInt_of_le (by have := h.1; omega) (by have := h.2; omega)
theorem lI_toInt {z : Int} (h : I64 z) : (lI z).toInt = z := Int64.toInt_ofInt_of_le (by have := h.1; omega) (by have := h.2; omega)
theorem iI_of (x : Int32) : x = iI x.toInt := (Int32.ofInt_toInt x).symm
theorem lI_of (x : Int64) : x = lI x.toInt := (Int64.ofInt_toInt x).symm
theorem I32_of (x : Int32) : I32 x.toInt := ⟨Int32.le_toInt x, Int32.toInt_lt x⟩
theorem I64_of (x : Int64) : I64 x.toInt := ⟨Int64.le_toInt x, Int64.toInt_lt x⟩
theorem nI_iI (k : Nat) : nI k = iI (k : Int) := Int32.ofInt_eq_ofNat.symm
theorem lN_lI (k : Nat) : lN k = lI (k : Int) := Int64.ofInt_eq_ofNat.symm
theorem iI_add (a b : Int) : iI a + iI b = iI (a + b) := (Int32.ofInt_add a b).symm
theorem iI_sub (a b : Int) : iI a - iI b = iI (a - b) := (Int32.ofInt_sub a b).symm
theorem iI_mul (a b : Int) : iI a * iI b = iI (a * b) := (Int32.ofInt_mul a b).symm
theorem iI_neg (a : Int) : -iI a = iI (-a) := (Int32.ofInt_neg a).symm
theorem lI_add (a b : Int) : lI a + lI b = lI (a + b) := (Int64.ofInt_add a b).symm
theorem lI_sub (a b : Int) : lI a - lI b = lI (a - b) := (Int64.ofInt_sub a b).symm
theorem lI_mul (a b : Int) : lI a * lI b = lI (a * b) := (Int64.ofInt_mul a b).symm
theorem lI_neg (a : Int) : -lI a = lI (-a) := (Int64.ofInt_neg a).symm
theorem iI_l {a : Int} (h : I32 a) : (iI a).toInt64 = lI a := Int64.toInt_inj.1 (by rw [Int32.toInt_toInt64, iI_toInt h, lI_toInt ⟨by have := h.1; omega, by have := h.2; omega⟩])
theorem lI_i (a : Int) : (lI a).toInt32 = iI a := Int64.toInt32_ofInt
theorem iI_lt {a b : Int} (ha : I32 a) (hb : I32 b) : iI a < iI b ↔ a < b := by rw [Int32.lt_iff_toInt_lt, iI_toInt ha, iI_toInt hb]
theorem iI_le {a b : Int} (ha : I32 a) (hb : I32 b) : iI a ≤ iI b ↔ a ≤ b := by rw [Int32.le_iff_toInt_le, iI_toInt ha, iI_toInt hb]
theorem iI_eq {a b : Int} (ha : I32 a) (hb : I32 b) : iI a = iI b ↔ a = b := by rw [← Int32.toInt_inj, iI_toInt ha, iI_toInt hb]
theorem lI_lt {a b : Int} (ha : I64 a) (hb : I64 b) : lI a < lI b ↔ a < b := by rw [Int64.lt_iff_toInt_lt, lI_toInt ha, lI_toInt hb]
theorem lI_le {a b : Int} (ha : I64 a) (hb : I64 b) : lI a ≤ lI b ↔ a ≤ b := by rw [Int64.le_iff_toInt_le, lI_toInt ha, lI_toInt hb]
theorem lI_eq {a b : Int} (ha : I64 a) (hb : I64 b) : lI a = lI b ↔ a = b := by rw [← Int64.toInt_inj, lI_toInt ha, lI_toInt hb]
theorem iI_0 : iI 0 = 0 := rfl
theorem lI_0 : lI 0 = 0 := rfl
theorem I32_0 : I32 0 := ⟨by decide, by decide⟩
theorem I64_0 : I64 0 := ⟨by decide, by decide⟩
theorem tdiv_rng {a b : Int} (M : Int) (h1 : -M ≤ a) (h2 : a < M) (hb : b ≠ -1) (hb0 : b ≠ 0) : -M ≤ a.tdiv b ∧ a.tdiv b < M := by
  have hM : 0 < M := by omega
  by_cases ha : a = 0
  · subst ha; rw [Int.zero_tdiv]; omega
  · have h := Int.natAbs_tdiv a b
    have hle : (a.tdiv b).natAbs ≤ a.natAbs := by rw [h]; exact Nat.div_le_self _ _
    by_cases hb1 : b = 1
    · subst hb1; rw [Int.tdiv_one]; omega
    · have hb2 : 2 ≤ b.natAbs := by omega
      have : (a.tdiv b).natAbs < a.natAbs := by
        rw [h]; exact Nat.div_lt_self (by omega) (by omega)
      omega
theorem iI_tdiv {a b : Int} (ha : I32 a) (hb : I32 b) (h1 : b ≠ -1) (h0 : b ≠ 0) : iI a / iI b = iI (a.tdiv b) := by
  have hr := tdiv_rng 2147483648 ha.1 ha.2 h1 h0
  rw [← Int32.toInt_inj, iI_toInt (z := a.tdiv b) hr, Int32.toInt_div_of_ne_right _ _ (fun h => h1 ((iI_eq (b := -1) hb ⟨by decide, by decide⟩).mp h)), iI_toInt ha, iI_toInt hb]
theorem lI_tdiv {a b : Int} (ha : I64 a) (hb : I64 b) (h1 : b ≠ -1) (h0 : b ≠ 0) : lI a / lI b = lI (a.tdiv b) := by
  have hr := tdiv_rng 9223372036854775808 ha.1 ha.2 h1 h0
  rw [← Int64.toInt_inj, lI_toInt (z := a.tdiv b) hr, Int64.toInt_div_of_ne_right _ _ (fun h => h1 ((lI_eq (b := -1) hb ⟨by decide, by decide⟩).mp h)), lI_toInt ha, lI_toInt hb]
theorem iI_div {a b : Int} (ha : I32 a) (hb : I32 b) (h0 : 0 ≤ a) (h1 : 0 < b) : iI a / iI b = iI (a / b) := by rw [iI_tdiv ha hb (by omega) (by omega), Int.tdiv_eq_ediv_of_nonneg h0]
theorem lI_div {a b : Int} (ha : I64 a) (hb : I64 b) (h0 : 0 ≤ a) (h1 : 0 < b) : lI a / lI b = lI (a / b) := by rw [lI_tdiv ha hb (by omega) (by omega), Int.tdiv_eq_ediv_of_nonneg h0]
theorem iI_rem {a b : Int} (ha : I32 a) (hb : I32 b) (h0 : 0 ≤ a) (h1 : 0 < b) : iI a - iI a / iI b * iI b = iI (a % b) := by
  rw [iI_div ha hb h0 h1, iI_mul, iI_sub]
  congr 1
  rw [Int.emod_def, Int.mul_comm]
theorem lI_rem {a b : Int} (ha : I64 a) (hb : I64 b) (h0 : 0 ≤ a) (h1 : 0 < b) : lI a - lI a / lI b * lI b = lI (a % b) := by
  rw [lI_div ha hb h0 h1, lI_mul, lI_sub]
  congr 1
  rw [Int.emod_def, Int.mul_comm]

section
variable {p : Program} {l : Launch} {e : Env} {R : Room} {s : State} {m : MethodId} {args : Array Value} {below : List Frame} {meth : Method} {c : Code} {H : Heap} {locs : List Loc} {cells slots : Nat} {Q : State → Prop} {cc : ByteArray} {nL : Nat} {Ts : List Cond} {own : String} {pc : Nat} {ls : Array Slot} {rest st0 : List Value} {E : wE} {F : Nat → Prop} {A : Nat → Nat} {n i : Nat} {g : Nat → va_E}

theorem x_iconst (X : CallFix p m c cc nL s args Ts own) {z : Int} (hdg : decode cc pc = .ok (.iconst z, 1)) (k : W p l e R s m args below meth c H locs cells slots Q (F0 m (pc + 1) ls (.int (iI z) :: rest))) : W p l e R s m args below meth c H locs cells slots Q (F0 m pc ls rest) := lv_iconst X.1 X.2.1 hdg rfl k
theorem x_bipush (X : CallFix p m c cc nL s args Ts own) {z : Int} (hv : (Int8.ofInt z).toInt32 = iI z) (hdg : decode cc pc = .ok (.bipush z, 2)) (k : W p l e R s m args below meth c H locs cells slots Q (F0 m (pc + 2) ls (.int (iI z) :: rest))) : W p l e R s m args below meth c H locs cells slots Q (F0 m pc ls rest) := lv_bipush X.1 X.2.1 hdg hv k
theorem x_sipush (X : CallFix p m c cc nL s args Ts own) {z : Int} (hv : (Int16.ofInt z).toInt32 = iI z) (hdg : decode cc pc = .ok (.sipush z, 3)) (k : W p l e R s m args below meth c H locs cells slots Q (F0 m (pc + 3) ls (.int (iI z) :: rest))) : W p l e R s m args below meth c H locs cells slots Q (F0 m pc ls rest) := lv_sipush X.1 X.2.1 hdg hv k
theorem x_lconst (X : CallFix p m c cc nL s args Ts own) {z : Fin 2} (y : Int) (hv : Int64.ofNat (z : Nat) = lI y) (hdg : decode cc pc = .ok (.lconst z, 1)) (k : W p l e R s m args below meth c H locs cells slots Q (F0 m (pc + 1) ls (.long (lI y) :: rest))) : W p l e R s m args below meth c H locs cells slots Q (F0 m pc ls rest) := lv_lconst X.1 X.2.1 hdg hv k
theorem x_ldc2 (X : CallFix p m c cc nL s args Ts own) {index : Nat} {v : Int64} (y : Int) (hv : v = lI y) (hcn : Cond.constantLong own index v ∈ Ts) (hdg : decode cc pc = .ok (.ldc2_w index, 3)) (k : W p l e R s m args below meth c H locs cells slots Q (F0 m (pc + 3) ls (.long (lI y) :: rest))) : W p l e R s m args below meth c H locs cells slots Q (F0 m pc ls rest) := lv_ldc2 X.1 X.2.1 X.2.2.2.1 (X.2.2.2.2 _ hcn) hdg (hv ▸ k)
theorem x_iadd (X : CallFix p m c cc nL s args Ts own) {a b : Int} (hdg : decode cc pc = .ok (.iadd, 1)) (k : W p l e R s m args below meth c H locs cells slots Q (F0 m (pc + 1) ls (.int (iI (a + b)) :: rest))) : W p l e R s m args below meth c H locs cells slots Q (F0 m pc ls (.int (iI b) :: .int (iI a) :: rest)) := lv_iadd X.1 X.2.1 hdg (iI_add a b ▸ k)
theorem x_isub (X : CallFix p m c cc nL s args Ts own) {a b : Int} (hdg : decode cc pc = .ok (.isub, 1)) (k : W p l e R s m args below meth c H locs cells slots Q (F0 m (pc + 1) ls (.int (iI (a - b)) :: rest))) : W p l e R s m args below meth c H locs cells slots Q (F0 m pc ls (.int (iI b) :: .int (iI a) :: rest)) := lv_isub X.1 X.2.1 hdg (iI_sub a b ▸ k)
theorem x_imul (X : CallFix p m c cc nL s args Ts own) {a b : Int} (hdg : decode cc pc = .ok (.imul, 1)) (k : W p l e R s m args below meth c H locs cells slots Q (F0 m (pc + 1) ls (.int (iI (a * b)) :: rest))) : W p l e R s m args below meth c H locs cells slots Q (F0 m pc ls (.int (iI b) :: .int (iI a) :: rest)) := lv_imul X.1 X.2.1 hdg (iI_mul a b ▸ k)
theorem x_ladd (X : CallFix p m c cc nL s args Ts own) {a b : Int} (hdg : decode cc pc = .ok (.ladd, 1)) (k : W p l e R s m args below meth c H locs cells slots Q (F0 m (pc + 1) ls (.long (lI (a + b)) :: rest))) : W p l e R s m args below meth c H locs cells slots Q (F0 m pc ls (.long (lI b) :: .long (lI a) :: rest)) := lv_ladd X.1 X.2.1 hdg (lI_add a b ▸ k)
theorem x_lsub (X : CallFix p m c cc nL s args Ts own) {a b : Int} (hdg : decode cc pc = .ok (.lsub, 1)) (k : W p l e R s m args below meth c H locs cells slots Q (F0 m (pc + 1) ls (.long (lI (a - b)) :: rest))) : W p l e R s m args below meth c H locs cells slots Q (F0 m pc ls (.long (lI b) :: .long (lI a) :: rest)) := lv_lsub X.1 X.2.1 hdg (lI_sub a b ▸ k)
theorem x_lmul (X : CallFix p m c cc nL s args Ts own) {a b : Int} (hdg : decode cc pc = .ok (.lmul, 1)) (k : W p l e R s m args below meth c H locs cells slots Q (F0 m (pc + 1) ls (.long (lI (a * b)) :: rest))) : W p l e R s m args below meth c H locs cells slots Q (F0 m pc ls (.long (lI b) :: .long (lI a) :: rest)) := lv_lmul X.1 X.2.1 hdg (lI_mul a b ▸ k)
theorem x_ineg (X : CallFix p m c cc nL s args Ts own) {a : Int} (hdg : decode cc pc = .ok (.ineg, 1)) (k : W p l e R s m args below meth c H locs cells slots Q (F0 m (pc + 1) ls (.int (iI (-a)) :: rest))) : W p l e R s m args below meth c H locs cells slots Q (F0 m pc ls (.int (iI a) :: rest)) := lv_ineg X.1 X.2.1 hdg (iI_neg a ▸ k)
theorem x_lneg (X : CallFix p m c cc nL s args Ts own) {a : Int} (hdg : decode cc pc = .ok (.lneg, 1)) (k : W p l e R s m args below meth c H locs cells slots Q (F0 m (pc + 1) ls (.long (lI (-a)) :: rest))) : W p l e R s m args below meth c H locs cells slots Q (F0 m pc ls (.long (lI a) :: rest)) := lv_lneg X.1 X.2.1 hdg (lI_neg a ▸ k)
theorem x_idiv (X : CallFix p m c cc nL s args Ts own) {a b : Int} (ha : I32 a) (hb : I32 b) (h0 : 0 ≤ a) (h1 : 0 < b) (hdg : decode cc pc = .ok (.idiv, 1)) (k : W p l e R s m args below meth c H locs cells slots Q (F0 m (pc + 1) ls (.int (iI (a / b)) :: rest))) : W p l e R s m args below meth c H locs cells slots Q (F0 m pc ls (.int (iI b) :: .int (iI a) :: rest)) := lv_idiv X.1 X.2.1 hdg (fun h => absurd ((iI_eq (b := 0) hb I32_0).mp h) (by omega)) (iI_div ha hb h0 h1 ▸ k)
theorem x_irem (X : CallFix p m c cc nL s args Ts own) {a b : Int} (ha : I32 a) (hb : I32 b) (h0 : 0 ≤ a) (h1 : 0 < b) (hdg : decode cc pc = .ok (.irem, 1)) (k : W p l e R s m args below meth c H locs cells slots Q (F0 m (pc + 1) ls (.int (iI (a % b)) :: rest))) : W p l e R s m args below meth c H locs cells slots Q (F0 m pc ls (.int (iI b) :: .int (iI a) :: rest)) := lv_irem X.1 X.2.1 hdg (fun h => absurd ((iI_eq (b := 0) hb I32_0).mp h) (by omega)) (iI_rem ha hb h0 h1 ▸ k)
theorem x_ldiv (X : CallFix p m c cc nL s args Ts own) {a b : Int} (ha : I64 a) (hb : I64 b) (h0 : 0 ≤ a) (h1 : 0 < b) (hdg : decode cc pc = .ok (.ldiv, 1)) (k : W p l e R s m args below meth c H locs cells slots Q (F0 m (pc + 1) ls (.long (lI (a / b)) :: rest))) : W p l e R s m args below meth c H locs cells slots Q (F0 m pc ls (.long (lI b) :: .long (lI a) :: rest)) := lv_ldiv X.1 X.2.1 hdg (fun h => absurd ((lI_eq (b := 0) hb I64_0).mp h) (by omega)) (lI_div ha hb h0 h1 ▸ k)
theorem x_lrem (X : CallFix p m c cc nL s args Ts own) {a b : Int} (ha : I64 a) (hb : I64 b) (h0 : 0 ≤ a) (h1 : 0 < b) (hdg : decode cc pc = .ok (.lrem, 1)) (k : W p l e R s m args below meth c H locs cells slots Q (F0 m (pc + 1) ls (.long (lI (a % b)) :: rest))) : W p l e R s m args below meth c H locs cells slots Q (F0 m pc ls (.long (lI b) :: .long (lI a) :: rest)) := lv_lrem X.1 X.2.1 hdg (fun h => absurd ((lI_eq (b := 0) hb I64_0).mp h) (by omega)) (lI_rem ha hb h0 h1 ▸ k)
theorem x_i2l (X : CallFix p m c cc nL s args Ts own) {a : Int} (ha : I32 a) (hdg : decode cc pc = .ok (.i2l, 1)) (k : W p l e R s m args below meth c H locs cells slots Q (F0 m (pc + 1) ls (.long (lI a) :: rest))) : W p l e R s m args below meth c H locs cells slots Q (F0 m pc ls (.int (iI a) :: rest)) := lv_i2l X.1 X.2.1 hdg (iI_l ha) k
theorem x_l2i (X : CallFix p m c cc nL s args Ts own) {a : Int} (hdg : decode cc pc = .ok (.l2i, 1)) (k : W p l e R s m args below meth c H locs cells slots Q (F0 m (pc + 1) ls (.int (iI a) :: rest))) : W p l e R s m args below meth c H locs cells slots Q (F0 m pc ls (.long (lI a) :: rest)) := lv_l2i X.1 X.2.1 hdg (lI_i a) k
theorem x_seti {a : Int} (b : Int) (h : a = b) (k : W p l e R s m args below meth c H locs cells slots Q (F0 m pc ls (.int (iI b) :: rest))) : W p l e R s m args below meth c H locs cells slots Q (F0 m pc ls (.int (iI a) :: rest)) := h ▸ k
theorem x_setl {a : Int} (b : Int) (h : a = b) (k : W p l e R s m args below meth c H locs cells slots Q (F0 m pc ls (.long (lI b) :: rest))) : W p l e R s m args below meth c H locs cells slots Q (F0 m pc ls (.long (lI a) :: rest)) := h ▸ k
theorem x_icmp_eq (X : CallFix p m c cc nL s args Ts own) {a b : Int} {off : Int} {tgt : Nat} (ha : I32 a) (hb : I32 b) (hdg : decode cc pc = .ok (.if_icmp .eq off, 3)) (ht : (pc : Int) + off = (tgt : Int)) (kt : a = b → W p l e R s m args below meth c H locs cells slots Q (F0 m tgt ls rest)) (kf : ¬ (a = b) → W p l e R s m args below meth c H locs cells slots Q (F0 m (pc + 3) ls rest)) : W p l e R s m args below meth c H locs cells slots Q (F0 m pc ls (.int (iI b) :: .int (iI a) :: rest)) := lv_icmp_eq X.1 X.2.1 hdg ht (fun h => kt ((iI_eq ha hb).mp h)) (fun h => kf (fun q => h ((iI_eq ha hb).mpr q)))
theorem x_if_eq (X : CallFix p m c cc nL s args Ts own) {a : Int} {off : Int} {tgt : Nat} (ha : I32 a) (hdg : decode cc pc = .ok (.ifCond .eq off, 3)) (ht : (pc : Int) + off = (tgt : Int)) (kt : a = 0 → W p l e R s m args below meth c H locs cells slots Q (F0 m tgt ls rest)) (kf : ¬ (a = 0) → W p l e R s m args below meth c H locs cells slots Q (F0 m (pc + 3) ls rest)) : W p l e R s m args below meth c H locs cells slots Q (F0 m pc ls (.int (iI a) :: rest)) := lv_if_eq X.1 X.2.1 hdg ht (fun h => kt ((iI_eq ha I32_0).mp h)) (fun h => kf (fun q => h ((iI_eq ha I32_0).mpr q)))
theorem x_lcmp_eq (X : CallFix p m c cc nL s args Ts own) {a b : Int} {off : Int} {tgt : Nat} (ha : I64 a) (hb : I64 b) (hdg : decode cc pc = .ok (.lcmp, 1)) (hdg2 : decode cc (pc + 1) = .ok (.ifCond .eq off, 3)) (ht : ((pc + 1 : Nat) : Int) + off = (tgt : Int)) (kt : a = b → W p l e R s m args below meth c H locs cells slots Q (F0 m tgt ls rest)) (kf : ¬ (a = b) → W p l e R s m args below meth c H locs cells slots Q (F0 m (pc + 4) ls rest)) : W p l e R s m args below meth c H locs cells slots Q (F0 m pc ls (.long (lI b) :: .long (lI a) :: rest)) := by
  refine W.lcmp X.1 X.2.1 hdg ?_
  have key : ((lg_cmp (lI a) (lI b)) = 0) ↔ (a = b) := by
    by_cases h1 : lI b < lI a
    · have h2 := (lI_lt hb ha).mp h1
      rw [show lg_cmp (lI a) (lI b) = 1 from if_pos h1]
      constructor
      · intro h; first | omega | exact absurd h (by decide)
      · intro h; first | omega | decide
    · have h2 : ¬ b < a := fun q => h1 ((lI_lt hb ha).mpr q)
      by_cases h3 : lI a = lI b
      · have h4 := (lI_eq ha hb).mp h3
        rw [show lg_cmp (lI a) (lI b) = 0 from (if_neg h1).trans (if_pos h3)]
        constructor
        · intro h; first | omega | exact absurd h (by decide)
        · intro h; first | omega | decide
      · have h4 : ¬ a = b := fun q => h3 ((lI_eq ha hb).mpr q)
        rw [show lg_cmp (lI a) (lI b) = -1 from (if_neg h1).trans (if_neg h3)]
        constructor
        · intro h; first | omega | exact absurd h (by decide)
        · intro h; first | omega | decide
  refine lv_if_eq X.1 X.2.1 hdg2 ht (fun h => kt (key.mp h)) (fun h => kf (fun q => h (key.mpr q)))
theorem x_icmp_ne (X : CallFix p m c cc nL s args Ts own) {a b : Int} {off : Int} {tgt : Nat} (ha : I32 a) (hb : I32 b) (hdg : decode cc pc = .ok (.if_icmp .ne off, 3)) (ht : (pc : Int) + off = (tgt : Int)) (kt : ¬ a = b → W p l e R s m args below meth c H locs cells slots Q (F0 m tgt ls rest)) (kf : a = b → W p l e R s m args below meth c H locs cells slots Q (F0 m (pc + 3) ls rest)) : W p l e R s m args below meth c H locs cells slots Q (F0 m pc ls (.int (iI b) :: .int (iI a) :: rest)) := lv_icmp_ne X.1 X.2.1 hdg ht (fun h => kt ((not_congr (iI_eq ha hb)).mp h)) (fun h => kf ((iI_eq ha hb).mp h))
theorem x_if_ne (X : CallFix p m c cc nL s args Ts own) {a : Int} {off : Int} {tgt : Nat} (ha : I32 a) (hdg : decode cc pc = .ok (.ifCond .ne off, 3)) (ht : (pc : Int) + off = (tgt : Int)) (kt : ¬ a = 0 → W p l e R s m args below meth c H locs cells slots Q (F0 m tgt ls rest)) (kf : a = 0 → W p l e R s m args below meth c H locs cells slots Q (F0 m (pc + 3) ls rest)) : W p l e R s m args below meth c H locs cells slots Q (F0 m pc ls (.int (iI a) :: rest)) := lv_if_ne X.1 X.2.1 hdg ht (fun h => kt ((not_congr (iI_eq ha I32_0)).mp h)) (fun h => kf ((iI_eq ha I32_0).mp h))
theorem x_lcmp_ne (X : CallFix p m c cc nL s args Ts own) {a b : Int} {off : Int} {tgt : Nat} (ha : I64 a) (hb : I64 b) (hdg : decode cc pc = .ok (.lcmp, 1)) (hdg2 : decode cc (pc + 1) = .ok (.ifCond .ne off, 3)) (ht : ((pc + 1 : Nat) : Int) + off = (tgt : Int)) (kt : ¬ a = b → W p l e R s m args below meth c H locs cells slots Q (F0 m tgt ls rest)) (kf : a = b → W p l e R s m args below meth c H locs cells slots Q (F0 m (pc + 4) ls rest)) : W p l e R s m args below meth c H locs cells slots Q (F0 m pc ls (.long (lI b) :: .long (lI a) :: rest)) := by
  refine W.lcmp X.1 X.2.1 hdg ?_
  have key : (¬ (lg_cmp (lI a) (lI b)) = 0) ↔ (¬ a = b) := by
    by_cases h1 : lI b < lI a
    · have h2 := (lI_lt hb ha).mp h1
      rw [show lg_cmp (lI a) (lI b) = 1 from if_pos h1]
      constructor
      · intro h; first | omega | exact absurd h (by decide)
      · intro h; first | omega | decide
    · have h2 : ¬ b < a := fun q => h1 ((lI_lt hb ha).mpr q)
      by_cases h3 : lI a = lI b
      · have h4 := (lI_eq ha hb).mp h3
        rw [show lg_cmp (lI a) (lI b) = 0 from (if_neg h1).trans (if_pos h3)]
        constructor
        · intro h; first | omega | exact absurd h (by decide)
        · intro h; first | omega | decide
      · have h4 : ¬ a = b := fun q => h3 ((lI_eq ha hb).mpr q)
        rw [show lg_cmp (lI a) (lI b) = -1 from (if_neg h1).trans (if_neg h3)]
        constructor
        · intro h; first | omega | exact absurd h (by decide)
        · intro h; first | omega | decide
  refine lv_if_ne X.1 X.2.1 hdg2 ht (fun h => kt (key.mp h)) (fun h => kf (Decidable.not_not.mp (fun q => key.mpr q h)))
theorem x_icmp_lt (X : CallFix p m c cc nL s args Ts own) {a b : Int} {off : Int} {tgt : Nat} (ha : I32 a) (hb : I32 b) (hdg : decode cc pc = .ok (.if_icmp .lt off, 3)) (ht : (pc : Int) + off = (tgt : Int)) (kt : a < b → W p l e R s m args below meth c H locs cells slots Q (F0 m tgt ls rest)) (kf : ¬ (a < b) → W p l e R s m args below meth c H locs cells slots Q (F0 m (pc + 3) ls rest)) : W p l e R s m args below meth c H locs cells slots Q (F0 m pc ls (.int (iI b) :: .int (iI a) :: rest)) := lv_icmp_lt X.1 X.2.1 hdg ht (fun h => kt ((iI_lt ha hb).mp h)) (fun h => kf (fun q => h ((iI_lt ha hb).mpr q)))
theorem x_if_lt (X : CallFix p m c cc nL s args Ts own) {a : Int} {off : Int} {tgt : Nat} (ha : I32 a) (hdg : decode cc pc = .ok (.ifCond .lt off, 3)) (ht : (pc : Int) + off = (tgt : Int)) (kt : a < 0 → W p l e R s m args below meth c H locs cells slots Q (F0 m tgt ls rest)) (kf : ¬ (a < 0) → W p l e R s m args below meth c H locs cells slots Q (F0 m (pc + 3) ls rest)) : W p l e R s m args below meth c H locs cells slots Q (F0 m pc ls (.int (iI a) :: rest)) := lv_if_lt X.1 X.2.1 hdg ht (fun h => kt ((iI_lt ha I32_0).mp h)) (fun h => kf (fun q => h ((iI_lt ha I32_0).mpr q)))
theorem x_lcmp_lt (X : CallFix p m c cc nL s args Ts own) {a b : Int} {off : Int} {tgt : Nat} (ha : I64 a) (hb : I64 b) (hdg : decode cc pc = .ok (.lcmp, 1)) (hdg2 : decode cc (pc + 1) = .ok (.ifCond .lt off, 3)) (ht : ((pc + 1 : Nat) : Int) + off = (tgt : Int)) (kt : a < b → W p l e R s m args below meth c H locs cells slots Q (F0 m tgt ls rest)) (kf : ¬ (a < b) → W p l e R s m args below meth c H locs cells slots Q (F0 m (pc + 4) ls rest)) : W p l e R s m args below meth c H locs cells slots Q (F0 m pc ls (.long (lI b) :: .long (lI a) :: rest)) := by
  refine W.lcmp X.1 X.2.1 hdg ?_
  have key : ((lg_cmp (lI a) (lI b)) < 0) ↔ (a < b) := by
    by_cases h1 : lI b < lI a
    · have h2 := (lI_lt hb ha).mp h1
      rw [show lg_cmp (lI a) (lI b) = 1 from if_pos h1]
      constructor
      · intro h; first | omega | exact absurd h (by decide)
      · intro h; first | omega | decide
    · have h2 : ¬ b < a := fun q => h1 ((lI_lt hb ha).mpr q)
      by_cases h3 : lI a = lI b
      · have h4 := (lI_eq ha hb).mp h3
        rw [show lg_cmp (lI a) (lI b) = 0 from (if_neg h1).trans (if_pos h3)]
        constructor
        · intro h; first | omega | exact absurd h (by decide)
        · intro h; first | omega | decide
      · have h4 : ¬ a = b := fun q => h3 ((lI_eq ha hb).mpr q)
        rw [show lg_cmp (lI a) (lI b) = -1 from (if_neg h1).trans (if_neg h3)]
        constructor
        · intro h; first | omega | exact absurd h (by decide)
        · intro h; first | omega | decide
  refine lv_if_lt X.1 X.2.1 hdg2 ht (fun h => kt (key.mp h)) (fun h => kf (fun q => h (key.mpr q)))
theorem x_icmp_ge (X : CallFix p m c cc nL s args Ts own) {a b : Int} {off : Int} {tgt : Nat} (ha : I32 a) (hb : I32 b) (hdg : decode cc pc = .ok (.if_icmp .ge off, 3)) (ht : (pc : Int) + off = (tgt : Int)) (kt : b ≤ a → W p l e R s m args below meth c H locs cells slots Q (F0 m tgt ls rest)) (kf : ¬ (b ≤ a) → W p l e R s m args below meth c H locs cells slots Q (F0 m (pc + 3) ls rest)) : W p l e R s m args below meth c H locs cells slots Q (F0 m pc ls (.int (iI b) :: .int (iI a) :: rest)) := lv_icmp_ge X.1 X.2.1 hdg ht (fun h => kt ((iI_le hb ha).mp h)) (fun h => kf (fun q => h ((iI_le hb ha).mpr q)))
theorem x_if_ge (X : CallFix p m c cc nL s args Ts own) {a : Int} {off : Int} {tgt : Nat} (ha : I32 a) (hdg : decode cc pc = .ok (.ifCond .ge off, 3)) (ht : (pc : Int) + off = (tgt : Int)) (kt : 0 ≤ a → W p l e R s m args below meth c H locs cells slots Q (F0 m tgt ls rest)) (kf : ¬ (0 ≤ a) → W p l e R s m args below meth c H locs cells slots Q (F0 m (pc + 3) ls rest)) : W p l e R s m args below meth c H locs cells slots Q (F0 m pc ls (.int (iI a) :: rest)) := lv_if_ge X.1 X.2.1 hdg ht (fun h => kt ((iI_le I32_0 ha).mp h)) (fun h => kf (fun q => h ((iI_le I32_0 ha).mpr q)))
theorem x_lcmp_ge (X : CallFix p m c cc nL s args Ts own) {a b : Int} {off : Int} {tgt : Nat} (ha : I64 a) (hb : I64 b) (hdg : decode cc pc = .ok (.lcmp, 1)) (hdg2 : decode cc (pc + 1) = .ok (.ifCond .ge off, 3)) (ht : ((pc + 1 : Nat) : Int) + off = (tgt : Int)) (kt : b ≤ a → W p l e R s m args below meth c H locs cells slots Q (F0 m tgt ls rest)) (kf : ¬ (b ≤ a) → W p l e R s m args below meth c H locs cells slots Q (F0 m (pc + 4) ls rest)) : W p l e R s m args below meth c H locs cells slots Q (F0 m pc ls (.long (lI b) :: .long (lI a) :: rest)) := by
  refine W.lcmp X.1 X.2.1 hdg ?_
  have key : (0 ≤ (lg_cmp (lI a) (lI b))) ↔ (b ≤ a) := by
    by_cases h1 : lI b < lI a
    · have h2 := (lI_lt hb ha).mp h1
      rw [show lg_cmp (lI a) (lI b) = 1 from if_pos h1]
      constructor
      · intro h; first | omega | exact absurd h (by decide)
      · intro h; first | omega | decide
    · have h2 : ¬ b < a := fun q => h1 ((lI_lt hb ha).mpr q)
      by_cases h3 : lI a = lI b
      · have h4 := (lI_eq ha hb).mp h3
        rw [show lg_cmp (lI a) (lI b) = 0 from (if_neg h1).trans (if_pos h3)]
        constructor
        · intro h; first | omega | exact absurd h (by decide)
        · intro h; first | omega | decide
      · have h4 : ¬ a = b := fun q => h3 ((lI_eq ha hb).mpr q)
        rw [show lg_cmp (lI a) (lI b) = -1 from (if_neg h1).trans (if_neg h3)]
        constructor
        · intro h; first | omega | exact absurd h (by decide)
        · intro h; first | omega | decide
  refine lv_if_ge X.1 X.2.1 hdg2 ht (fun h => kt (key.mp h)) (fun h => kf (fun q => h (key.mpr q)))
theorem x_icmp_gt (X : CallFix p m c cc nL s args Ts own) {a b : Int} {off : Int} {tgt : Nat} (ha : I32 a) (hb : I32 b) (hdg : decode cc pc = .ok (.if_icmp .gt off, 3)) (ht : (pc : Int) + off = (tgt : Int)) (kt : b < a → W p l e R s m args below meth c H locs cells slots Q (F0 m tgt ls rest)) (kf : ¬ (b < a) → W p l e R s m args below meth c H locs cells slots Q (F0 m (pc + 3) ls rest)) : W p l e R s m args below meth c H locs cells slots Q (F0 m pc ls (.int (iI b) :: .int (iI a) :: rest)) := lv_icmp_gt X.1 X.2.1 hdg ht (fun h => kt ((iI_lt hb ha).mp h)) (fun h => kf (fun q => h ((iI_lt hb ha).mpr q)))
theorem x_if_gt (X : CallFix p m c cc nL s args Ts own) {a : Int} {off : Int} {tgt : Nat} (ha : I32 a) (hdg : decode cc pc = .ok (.ifCond .gt off, 3)) (ht : (pc : Int) + off = (tgt : Int)) (kt : 0 < a → W p l e R s m args below meth c H locs cells slots Q (F0 m tgt ls rest)) (kf : ¬ (0 < a) → W p l e R s m args below meth c H locs cells slots Q (F0 m (pc + 3) ls rest)) : W p l e R s m args below meth c H locs cells slots Q (F0 m pc ls (.int (iI a) :: rest)) := lv_if_gt X.1 X.2.1 hdg ht (fun h => kt ((iI_lt I32_0 ha).mp h)) (fun h => kf (fun q => h ((iI_lt I32_0 ha).mpr q)))
theorem x_lcmp_gt (X : CallFix p m c cc nL s args Ts own) {a b : Int} {off : Int} {tgt : Nat} (ha : I64 a) (hb : I64 b) (hdg : decode cc pc = .ok (.lcmp, 1)) (hdg2 : decode cc (pc + 1) = .ok (.ifCond .gt off, 3)) (ht : ((pc + 1 : Nat) : Int) + off = (tgt : Int)) (kt : b < a → W p l e R s m args below meth c H locs cells slots Q (F0 m tgt ls rest)) (kf : ¬ (b < a) → W p l e R s m args below meth c H locs cells slots Q (F0 m (pc + 4) ls rest)) : W p l e R s m args below meth c H locs cells slots Q (F0 m pc ls (.long (lI b) :: .long (lI a) :: rest)) := by
  refine W.lcmp X.1 X.2.1 hdg ?_
  have key : (0 < (lg_cmp (lI a) (lI b))) ↔ (b < a) := by
    by_cases h1 : lI b < lI a
    · have h2 := (lI_lt hb ha).mp h1
      rw [show lg_cmp (lI a) (lI b) = 1 from if_pos h1]
      constructor
      · intro h; first | omega | exact absurd h (by decide)
      · intro h; first | omega | decide
    · have h2 : ¬ b < a := fun q => h1 ((lI_lt hb ha).mpr q)
      by_cases h3 : lI a = lI b
      · have h4 := (lI_eq ha hb).mp h3
        rw [show lg_cmp (lI a) (lI b) = 0 from (if_neg h1).trans (if_pos h3)]
        constructor
        · intro h; first | omega | exact absurd h (by decide)
        · intro h; first | omega | decide
      · have h4 : ¬ a = b := fun q => h3 ((lI_eq ha hb).mpr q)
        rw [show lg_cmp (lI a) (lI b) = -1 from (if_neg h1).trans (if_neg h3)]
        constructor
        · intro h; first | omega | exact absurd h (by decide)
        · intro h; first | omega | decide
  refine lv_if_gt X.1 X.2.1 hdg2 ht (fun h => kt (key.mp h)) (fun h => kf (fun q => h (key.mpr q)))
theorem x_icmp_le (X : CallFix p m c cc nL s args Ts own) {a b : Int} {off : Int} {tgt : Nat} (ha : I32 a) (hb : I32 b) (hdg : decode cc pc = .ok (.if_icmp .le off, 3)) (ht : (pc : Int) + off = (tgt : Int)) (kt : a ≤ b → W p l e R s m args below meth c H locs cells slots Q (F0 m tgt ls rest)) (kf : ¬ (a ≤ b) → W p l e R s m args below meth c H locs cells slots Q (F0 m (pc + 3) ls rest)) : W p l e R s m args below meth c H locs cells slots Q (F0 m pc ls (.int (iI b) :: .int (iI a) :: rest)) := lv_icmp_le X.1 X.2.1 hdg ht (fun h => kt ((iI_le ha hb).mp h)) (fun h => kf (fun q => h ((iI_le ha hb).mpr q)))
theorem x_if_le (X : CallFix p m c cc nL s args Ts own) {a : Int} {off : Int} {tgt : Nat} (ha : I32 a) (hdg : decode cc pc = .ok (.ifCond .le off, 3)) (ht : (pc : Int) + off = (tgt : Int)) (kt : a ≤ 0 → W p l e R s m args below meth c H locs cells slots Q (F0 m tgt ls rest)) (kf : ¬ (a ≤ 0) → W p l e R s m args below meth c H locs cells slots Q (F0 m (pc + 3) ls rest)) : W p l e R s m args below meth c H locs cells slots Q (F0 m pc ls (.int (iI a) :: rest)) := lv_if_le X.1 X.2.1 hdg ht (fun h => kt ((iI_le ha I32_0).mp h)) (fun h => kf (fun q => h ((iI_le ha I32_0).mpr q)))
theorem x_lcmp_le (X : CallFix p m c cc nL s args Ts own) {a b : Int} {off : Int} {tgt : Nat} (ha : I64 a) (hb : I64 b) (hdg : decode cc pc = .ok (.lcmp, 1)) (hdg2 : decode cc (pc + 1) = .ok (.ifCond .le off, 3)) (ht : ((pc + 1 : Nat) : Int) + off = (tgt : Int)) (kt : a ≤ b → W p l e R s m args below meth c H locs cells slots Q (F0 m tgt ls rest)) (kf : ¬ (a ≤ b) → W p l e R s m args below meth c H locs cells slots Q (F0 m (pc + 4) ls rest)) : W p l e R s m args below meth c H locs cells slots Q (F0 m pc ls (.long (lI b) :: .long (lI a) :: rest)) := by
  refine W.lcmp X.1 X.2.1 hdg ?_
  have key : ((lg_cmp (lI a) (lI b)) ≤ 0) ↔ (a ≤ b) := by
    by_cases h1 : lI b < lI a
    · have h2 := (lI_lt hb ha).mp h1
      rw [show lg_cmp (lI a) (lI b) = 1 from if_pos h1]
      constructor
      · intro h; first | omega | exact absurd h (by decide)
      · intro h; first | omega | decide
    · have h2 : ¬ b < a := fun q => h1 ((lI_lt hb ha).mpr q)
      by_cases h3 : lI a = lI b
      · have h4 := (lI_eq ha hb).mp h3
        rw [show lg_cmp (lI a) (lI b) = 0 from (if_neg h1).trans (if_pos h3)]
        constructor
        · intro h; first | omega | exact absurd h (by decide)
        · intro h; first | omega | decide
      · have h4 : ¬ a = b := fun q => h3 ((lI_eq ha hb).mpr q)
        rw [show lg_cmp (lI a) (lI b) = -1 from (if_neg h1).trans (if_neg h3)]
        constructor
        · intro h; first | omega | exact absurd h (by decide)
        · intro h; first | omega | decide
  refine lv_if_le X.1 X.2.1 hdg2 ht (fun h => kt (key.mp h)) (fun h => kf (fun q => h (key.mpr q)))
end
