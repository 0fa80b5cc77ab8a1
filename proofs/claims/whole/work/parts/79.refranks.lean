/-! ===== the reference: ranks ===== -/
def cb : Nat → Nat → Nat
  | _, 0 => 1
  | 0, _ + 1 => 0
  | n + 1, k + 1 => cb n k + cb n (k + 1)
theorem cb_0 (n : Nat) : cb n 0 = 1 := by cases n <;> rfl
theorem cb_gt : ∀ n k, n < k → cb n k = 0
  | 0, k + 1, _ => rfl
  | n + 1, k + 1, h => by
    show cb n k + cb n (k + 1) = 0
    rw [cb_gt n k (by omega), cb_gt n (k + 1) (by omega)]
theorem cb_self : ∀ n, cb n n = 1
  | 0 => rfl
  | n + 1 => by
    show cb n n + cb n (n + 1) = 1
    rw [cb_self n, cb_gt n (n + 1) (by omega)]
theorem cb_id : ∀ n k, (k + 1) * cb n (k + 1) = (n - k) * cb n k
  | 0, k => by
    show (k + 1) * 0 = (0 - k) * _
    rw [Nat.zero_sub, Nat.zero_mul, Nat.mul_zero]
  | n + 1, 0 => by
    have h := cb_id n 0
    rw [cb_0] at h
    show (0 + 1) * (cb n 0 + cb n (0 + 1)) = (n + 1 - 0) * cb (n + 1) 0
    rw [cb_0, cb_0]
    omega
  | n + 1, k + 1 => by
    have h1 := cb_id n k
    have h2 := cb_id n (k + 1)
    show (k + 1 + 1) * (cb n (k + 1) + cb n (k + 1 + 1)) = (n + 1 - (k + 1)) * (cb n k + cb n (k + 1))
    rw [Nat.mul_add, h2, show n + 1 - (k + 1) = n - k from by omega, Nat.mul_add, ← h1, ← Nat.add_mul, ← Nat.add_mul]
    by_cases h : k < n
    · congr 1; omega
    · rw [cb_gt n (k + 1) (by omega), Nat.mul_zero, Nat.mul_zero]
theorem cb_le : ∀ n k, cb n k ≤ 2 ^ n
  | n, 0 => by rw [cb_0]; exact Nat.pow_pos (by decide)
  | 0, k + 1 => Nat.zero_le _
  | n + 1, k + 1 => by
    have h1 := cb_le n k
    have h2 := cb_le n (k + 1)
    show cb n k + cb n (k + 1) ≤ _
    rw [Nat.pow_succ]
    omega
theorem cb_20 {n : Nat} (h : n ≤ 20) (k : Nat) : cb n k ≤ 1048576 := Nat.le_trans (cb_le n k) (Nat.le_trans (Nat.pow_le_pow_right (by decide) h) (by decide))
theorem cb_div (n e : Nat) : cb n e * (n - e) / (e + 1) = cb n (e + 1) := Nat.div_eq_of_eq_mul_right (by omega) (by rw [cb_id, Nat.mul_comm])
def ft : Nat → Nat
  | 0 => 1
  | k + 1 => ft k * (k + 1)
theorem ft_pos : ∀ k, 0 < ft k
  | 0 => Nat.one_pos
  | k + 1 => Nat.mul_pos (ft_pos k) (by omega)
theorem ft_le : ∀ k, k ≤ 20 → ft k ≤ 20 ^ k
  | 0, _ => Nat.le_refl _
  | k + 1, h => by
    show ft k * (k + 1) ≤ _
    rw [Nat.pow_succ]
    exact Nat.mul_le_mul (ft_le k (by omega)) h
theorem ft_end {e k : Nat} (h1 : 1 ≤ e) (h2 : e = 1 ∨ e ≤ k) (h3 : k < e + 1) : ft e = ft k := by
  by_cases h : e ≤ k
  · rw [show e = k from by omega]
  · rw [show e = 1 from by omega, show k = 0 from by omega]; rfl
theorem ft_far (j : Nat) : ∀ u, ft j * pr (fun k => j + 1 + k) u = ft (j + u)
  | 0 => by show ft j * 1 = ft j; rw [Nat.mul_one]
  | u + 1 => by
    show ft j * (pr (fun k => j + 1 + k) u * (j + 1 + u)) = ft (j + u) * (j + u + 1)
    rw [← Nat.mul_assoc, ft_far j u, show j + 1 + u = j + u + 1 from by omega]
def ysS (py : Nat → Nat) (nn jj ss u : Nat) : Nat := sm (fun r => cb r (ss - 1) * cb (nn - 1 - r) (jj - ss) * py (r + 1)) u
theorem sm_one {f : Nat → Nat} {j : Nat} : ∀ k, j < k → (∀ x, x < k → x ≠ j → f x = 0) → sm f k = f j := by
  intro k
  induction k with
  | zero => intro h; exact absurd h (Nat.not_lt_zero _)
  | succ k ih =>
    intro h hz
    show sm f k + f k = f j
    by_cases e : j = k
    · subst e
      rw [sm_zero j (fun x hx => hz x (by omega) (by omega)), Nat.zero_add]
    · rw [ih (by omega) (fun x hx => hz x (by omega)), hz k (by omega) (by omega), Nat.add_zero]
theorem rk_sum {py : Nat → Nat} {nn : Nat} : ∀ d s, 1 ≤ s → s + d ≤ nn → rkY py nn d s = ft d * ysS py nn (nn - d) s nn := by
  intro d
  induction d with
  | zero =>
    intro s h1 h2
    show py s = 1 * _
    unfold ysS
    rw [Nat.one_mul, sm_one (j := s - 1) nn (by omega) ?_]
    · rw [cb_self, show nn - 1 - (s - 1) = nn - 0 - s from by omega, cb_self, show s - 1 + 1 = s from by omega, Nat.one_mul]
    · intro x hx hne
      by_cases h : x < s - 1
      · rw [cb_gt x (s - 1) h, Nat.zero_mul, Nat.zero_mul]
      · rw [cb_gt (nn - 1 - x) (nn - 0 - s) (by omega), Nat.mul_zero, Nat.zero_mul]
  | succ d ih =>
    intro s h1 h2
    obtain ⟨s', rfl⟩ : ∃ s', s = s' + 1 := ⟨s - 1, by omega⟩
    obtain ⟨e, he⟩ : ∃ e, nn = e + d + 1 + (s' + 1) := ⟨nn - d - 1 - (s' + 1), by omega⟩
    show unS (nn - 1 - d) (rkY py nn d) (s' + 1) = _
    rw [unS_in (by omega) (by omega), ih (s' + 1) (by omega) (by omega), ih (s' + 1 + 1) (by omega) (by omega)]
    show _ = ft d * (d + 1) * _
    unfold ysS
    rw [Nat.mul_assoc, Nat.mul_assoc (ft d) _ (s' + 1), ← Nat.mul_add, Nat.mul_assoc (ft d)]
    congr 1
    rw [Nat.mul_comm _ (nn - 1 - d + 1 - (s' + 1)), Nat.mul_comm _ (s' + 1), ← sm_mul, ← sm_mul, ← sm_add, ← sm_mul]
    apply sm_congr
    intro r hr
    show (nn - 1 - d + 1 - (s' + 1)) * (cb r (s' + 1 - 1) * cb (nn - 1 - r) (nn - d - (s' + 1)) * py (r + 1)) + (s' + 1) * (cb r (s' + 1 + 1 - 1) * cb (nn - 1 - r) (nn - d - (s' + 1 + 1)) * py (r + 1)) = (d + 1) * (cb r (s' + 1 - 1) * cb (nn - 1 - r) (nn - (d + 1) - (s' + 1)) * py (r + 1))
    rw [show nn - 1 - d + 1 - (s' + 1) = e + 1 from by omega, show s' + 1 - 1 = s' from rfl, show nn - d - (s' + 1) = e + 1 from by omega, show s' + 1 + 1 - 1 = s' + 1 from rfl, show nn - d - (s' + 1 + 1) = e from by omega, show nn - (d + 1) - (s' + 1) = e from by omega]
    have i1 := cb_id (nn - 1 - r) e
    have i2 := cb_id r s'
    have a1 : (e + 1) * (cb r s' * cb (nn - 1 - r) (e + 1) * py (r + 1)) = cb r s' * cb (nn - 1 - r) e * py (r + 1) * (nn - 1 - r - e) := by
      rw [← Nat.mul_assoc, ← Nat.mul_assoc, Nat.mul_comm (e + 1) (cb r s'), Nat.mul_assoc (cb r s'), i1, Nat.mul_comm (nn - 1 - r - e), ← Nat.mul_assoc, Nat.mul_assoc _ _ (py (r + 1)), Nat.mul_comm (nn - 1 - r - e) (py (r + 1)), ← Nat.mul_assoc]
    have a2 : (s' + 1) * (cb r (s' + 1) * cb (nn - 1 - r) e * py (r + 1)) = cb r s' * cb (nn - 1 - r) e * py (r + 1) * (r - s') := by
      rw [← Nat.mul_assoc, ← Nat.mul_assoc, i2, Nat.mul_assoc (r - s'), Nat.mul_assoc (r - s'), Nat.mul_comm (r - s')]
    rw [a1, a2, ← Nat.mul_add, Nat.mul_comm (d + 1)]
    by_cases c1 : r < s'
    · rw [cb_gt r s' c1, Nat.zero_mul, Nat.zero_mul, Nat.zero_mul, Nat.zero_mul]
    · by_cases c2 : nn - 1 - r < e
      · rw [cb_gt (nn - 1 - r) e c2, Nat.mul_zero, Nat.zero_mul, Nat.zero_mul, Nat.zero_mul]
      · rw [show nn - 1 - r - e + (r - s') = d + 1 from by omega]
theorem ys_end {py : Nat → Nat} {nn jj ss : Nat} (h1 : 1 ≤ ss) (h2 : ss ≤ jj) (h3 : jj ≤ nn) : ysS py nn jj ss nn * ft jj * ft (nn - jj) * pr (fun k => jj + 1 + k) (nn - jj) = ft nn * rkY py nn (nn - jj) ss := by
  rw [rk_sum (nn - jj) ss h1 (by omega), show nn - (nn - jj) = jj from by omega]
  have e := ft_far jj (nn - jj)
  rw [show jj + (nn - jj) = nn from by omega] at e
  rw [← e, Nat.mul_assoc (ysS _ _ _ _ _), Nat.mul_comm (ft jj) (ft (nn - jj)), ← Nat.mul_assoc, Nat.mul_assoc _ (ft jj), Nat.mul_comm (ysS _ _ _ _ _) (ft (nn - jj)), Nat.mul_comm]
theorem ysS_le {py : Nat → Nat} {nn jj ss : Nat} (hn : nn ≤ 20) (hp : ∀ k, k < 21 → py k ≤ 1000) : ∀ u, u ≤ nn → ysS py nn jj ss u ≤ u * (1048576 * 1048576 * 1000) := by
  intro u
  induction u with
  | zero => intro _; exact Nat.zero_le _
  | succ u ih =>
    intro hu
    show ysS py nn jj ss u + _ ≤ _
    rw [Nat.add_mul, Nat.one_mul]
    exact Nat.add_le_add (ih (by omega)) (Nat.mul_le_mul (Nat.mul_le_mul (cb_20 (by omega) _) (cb_20 (by omega) _)) (hp _ (by omega)))
theorem cap_a {S j : Nat} (hS : S ≤ 10 ^ 17) (hj : j ≤ 20) : S * ft j ≤ 10 ^ 17 * 20 ^ 20 := Nat.mul_le_mul hS (Nat.le_trans (ft_le j hj) (Nat.pow_le_pow_right (by decide) hj))
theorem cap_b {S j e : Nat} (hS : S ≤ 10 ^ 17) (hj : j + e ≤ 20) : S * ft j * ft e ≤ 10 ^ 17 * 20 ^ 20 := by
  rw [Nat.mul_assoc]
  refine Nat.mul_le_mul hS (Nat.le_trans (Nat.mul_le_mul (ft_le j (by omega)) (ft_le e (by omega))) ?_)
  rw [← Nat.pow_add]
  exact Nat.pow_le_pow_right (by decide) hj
theorem cap_c {S j e u : Nat} (hS : S ≤ 10 ^ 17) (hj : j + e ≤ 20) (hu : j + u ≤ 20) : S * ft j * ft e * pr (fun k => j + 1 + k) u ≤ 10 ^ 17 * 20 ^ 20 * 20 ^ 20 := by
  refine Nat.mul_le_mul (cap_b hS hj) (Nat.le_trans (pr_le (M := 20) u (fun k hk => by omega)) (Nat.pow_le_pow_right (by decide) (by omega)))

set_option maxHeartbeats 4000000 in
set_option maxRecDepth 100000 in
/-- choose -/
theorem c_X11_choose (l : Launch) (E : wE) (A : Nat → Nat) (n sz : Nat) (g : Nat → va_E) (nn kk : Nat) (hn : nn ≤ 20) (hk : kk ≤ 20) : Met l yX11_choose wsX11_choose ({ frames := 1, cells := 0, slots := 0, locals := 60 } : Room) (va_Pc [.int (iI ((nn : Int))), .int (iI ((kk : Int)))] (wPre E A n sz g)) (va_Ql (fun r g' => r = lI ((cb nn kk : Nat) : Int) ∧ g' = g) (wAt E A n) (wF A n sz)) 0 0 (wF A n sz) := by
  refine x_met (cc := cX11_choose) (maxL := 5) (ret := (some .long)) [.int (iI ((nn : Int))), .int (iI ((kk : Int)))] (by decide) rfl (Nat.le_of_ble_eq_true rfl) ?_
  intro p_ e_ s_ m_ below meth c_ ls X hr hlk hnm hsz hW hl
  have hl : lv_has ls 5 [(0, .int (iI ((nn : Int)))), (1, .int (iI ((kk : Int))))] := hl
  refine lv_iload_n X.1 X.2.1 dX11_choose_0 rfl (lv_at hl 1 rfl) ?_
  refine x_if_lt (tgt := 9) X ⟨by omega, by omega⟩ dX11_choose_1 (by decide) (fun b_1 => ?_) (fun b_1 => ?_)
  · refine x_lconst X 0 (by decide) dX11_choose_9 ?_
    exact x_lret X hr hlk hW (⟨by rw [cb_gt nn kk (by omega)]; rfl, rfl⟩) dX11_choose_10
  · refine lv_iload_n X.1 X.2.1 dX11_choose_4 rfl (lv_at hl 1 rfl) ?_
    refine lv_iload_n X.1 X.2.1 dX11_choose_5 rfl (lv_at hl 0 rfl) ?_
    refine x_icmp_le (tgt := 11) X ⟨by omega, by omega⟩ ⟨by omega, by omega⟩ dX11_choose_6 (by decide) (fun b_6 => ?_) (fun b_6 => ?_)
    · refine x_lconst X 1 (by decide) dX11_choose_11 ?_
      refine x_setl (((cb nn 0 : Nat) : Int)) (by rw [cb_0]; rfl) ?_
      refine lv_lstore_n (lv' := [(2, .long (lI (((cb nn 0 : Nat) : Int)))), (0, .int (iI ((nn : Int)))), (1, .int (iI ((kk : Int))))]) X.1 X.2.1 dX11_choose_12 rfl hl (by decide) rfl (fun ls hl => ?_)
      refine x_iconst X dX11_choose_13 ?_
      refine x_seti (((0 : Nat) : Int)) rfl ?_
      refine lv_istore (lv' := [(4, .int (iI (((0 : Nat) : Int)))), (2, .long (lI (((cb nn 0 : Nat) : Int)))), (0, .int (iI ((nn : Int)))), (1, .int (iI ((kk : Int))))]) X.1 X.2.1 dX11_choose_14 hl (by decide) rfl (fun ls hl => ?_)
      have loop_16 : ∀ (fuel : Nat) (e : Nat) (gw : Nat → va_E) (H : Heap) (locs : List Loc) (ls : Array Slot), (kk - e) < fuel → (e ≤ kk) → (gw = g) → wH E (wF A n sz) A n s_ gw H locs → lv_has ls 5 [(0, .int (iI ((nn : Int)))), (1, .int (iI ((kk : Int)))), (2, .long (lI (((cb nn e : Nat) : Int)))), (4, .int (iI (((e : Nat) : Int))))] → W p_ l e_ ({ frames := 1, cells := 0, slots := 0, locals := 60 } : Room) s_ m_ [.int (iI ((nn : Int))), .int (iI ((kk : Int)))].toArray below meth c_ H locs 0 0 (MQ below (va_Ql (fun r g' => r = lI ((cb nn kk : Nat) : Int) ∧ g' = g) (wAt E A n) (wF A n sz)) [.int (iI ((nn : Int))), .int (iI ((kk : Int)))].toArray s_ 0 0 (wF A n sz)) (F0 m_ 16 ls []) := by
        intro fuel
        induction fuel with
        | zero => intro e gw H locs ls hm; exact absurd hm (Nat.not_lt_zero _)
        | succ fuel ih_16 =>
          intro e gw H locs ls hm he hgg hW hl
          refine lv_iload X.1 X.2.1 dX11_choose_16 (lv_at hl 3 rfl) ?_
          refine lv_iload_n X.1 X.2.1 dX11_choose_18 rfl (lv_at hl 1 rfl) ?_
          refine x_icmp_ge (tgt := 42) X ⟨by omega, by omega⟩ ⟨by omega, by omega⟩ dX11_choose_19 (by decide) (fun b_19 => ?_) (fun b_19 => ?_)
          · refine lv_lload_n X.1 X.2.1 dX11_choose_42 rfl (lv_at hl 2 rfl) ?_
            exact x_lret X hr hlk hW (⟨by rw [show e = kk from by omega], hgg⟩) dX11_choose_43
          · have hcm : cb nn e * (nn - e) ≤ 1048576 * 20 := Nat.mul_le_mul (cb_20 hn e) (by omega)
            refine lv_lload_n X.1 X.2.1 dX11_choose_22 rfl (lv_at hl 2 rfl) ?_
            refine lv_iload_n X.1 X.2.1 dX11_choose_23 rfl (lv_at hl 0 rfl) ?_
            refine lv_iload X.1 X.2.1 dX11_choose_24 (lv_at hl 3 rfl) ?_
            refine x_isub X dX11_choose_26 ?_
            refine x_i2l X ⟨by omega, by omega⟩ dX11_choose_27 ?_
            refine x_lmul X dX11_choose_28 ?_
            refine x_setl (((cb nn e * (nn - e) : Nat) : Int)) (by rw [Int.natCast_mul, Int.natCast_sub (by omega)]) ?_
            refine lv_iload X.1 X.2.1 dX11_choose_29 (lv_at hl 3 rfl) ?_
            refine x_iconst X dX11_choose_31 ?_
            refine x_iadd X dX11_choose_32 ?_
            refine x_seti (((e + 1 : Nat) : Int)) rfl ?_
            refine x_i2l X ⟨by omega, by omega⟩ dX11_choose_33 ?_
            refine x_ldiv X ⟨by omega, by omega⟩ ⟨by omega, by omega⟩ (by omega) (by omega) dX11_choose_34 ?_
            refine x_setl (((cb nn (e + 1) : Nat) : Int)) (by rw [← Int.natCast_ediv, cb_div]) ?_
            refine lv_lstore_n (lv' := [(2, .long (lI (((cb nn (e + 1) : Nat) : Int)))), (0, .int (iI ((nn : Int)))), (1, .int (iI ((kk : Int)))), (4, .int (iI (((e : Nat) : Int))))]) X.1 X.2.1 dX11_choose_35 rfl hl (by decide) rfl (fun ls hl => ?_)
            refine lv_iinc (v := iI (((e + 1 : Nat) : Int))) (lv' := [(4, .int (iI (((e + 1 : Nat) : Int)))), (2, .long (lI (((cb nn (e + 1) : Nat) : Int)))), (0, .int (iI ((nn : Int)))), (1, .int (iI ((kk : Int))))]) X.1 X.2.1 dX11_choose_36 hl (k := 3) rfl (by rw [show (Int32.ofInt (1)) = iI (1) from rfl, iI_add]; rfl) (by decide) rfl (fun ls hl => ?_)
            refine lv_goto (tgt := 16) X.1 X.2.1 dX11_choose_39 (by decide) ?_
            exact ih_16 (e + 1) gw _ _ _ (by omega) (by omega) hgg hW (lv_sub hl [2, 3, 1, 0] rfl)
      exact loop_16 _ 0 g _ _ _ (Nat.lt_succ_self _) (Nat.zero_le _) rfl hW (lv_sub hl [2, 3, 1, 0] rfl)
    · refine x_lconst X 0 (by decide) dX11_choose_9 ?_
      exact x_lret X hr hlk hW (⟨by rw [cb_gt nn kk (by omega)]; rfl, rfl⟩) dX11_choose_10

set_option maxHeartbeats 4000000 in
set_option maxRecDepth 100000 in
/-- yesOf -/
theorem c_X11_yesOf (l : Launch) (E : wE) (A : Nat → Nat) (n sz : Nat) (g : Nat → va_E) (i : Nat) (q : Nat → Int) (N : Nat → Int) (py : Nat → Nat) (nn jj ss : Nat) (hi : i + 16 < n) (hO : g i = mO A i q) (hN : MN E A g i N) (hP : PayM E A g i py) (hn2 : nn ≤ 20) (hj2 : jj ≤ nn) (hs1 : 1 ≤ ss) (hs2 : ss ≤ jj) : Met l yX11_yesOf wsX11_yesOf ({ frames := 4, cells := 0, slots := 0, locals := 160 } : Room) (va_Pc [.ref (A (i)), .int (iI ((nn : Int))), .int (iI ((jj : Int))), .int (iI ((ss : Int)))] (wPre E A n sz g)) (va_Qv (fun g' => (∃ N' : Nat → Int, MN E A g' i N' ∧ N' 2 = ((ft nn * rkY py nn (nn - jj) ss : Nat) : Int) ∧ ∀ x, (x ≠ 2 ∧ x ≠ 4) → N' x = N x) ∧ ∀ j, j ≠ i + 1 → g' j = g j) (wAt E A n) (wF A n sz)) 0 0 (wF A n sz) := by
  refine x_met (cc := cX11_yesOf) (maxL := 5) (ret := none) [.ref (A (i)), .int (iI ((nn : Int))), .int (iI ((jj : Int))), .int (iI ((ss : Int)))] (by decide) rfl (Nat.le_of_ble_eq_true rfl) ?_
  intro p_ e_ s_ m_ below meth c_ ls X hr hlk hnm hsz hW hl
  have hl : lv_has ls 5 [(0, .ref (A (i))), (1, .int (iI ((nn : Int)))), (2, .int (iI ((jj : Int)))), (3, .int (iI ((ss : Int))))] := hl
  have lk_0 : ∀ w ∈ wsX110, w ∈ wsX11_yesOf := by decide +kernel
  have lk_1 : Cond.fieldLink RX11 42 (TX11 12).1 (TX11 12).2.1 (TX11 12).2.2.1 ∈ wsX11_yesOf := by decide +kernel
  have hO : g i = .inr (11, [.ref (A (i + 1)), .ref (A (i + 2)), .ref (A (i + 3)), .ref (A (i + 4)), .int (iI (q 0)), .ref (A (i + 5)), .ref (A (i + 6)), .ref (A (i + 7)), .ref (A (i + 8)), .int (iI (q 1)), .ref (A (i + 9)), .ref (A (i + 10)), .ref (A (i + 11)), .int (iI (q 2)), .ref (A (i + 12)), .ref (A (i + 13)), .int (iI (q 3)), .ref (A (i + 14)), .ref (A (i + 15)), .ref (A (i + 16)), .int (iI (q 4))]) := hO
  have hOg := hO
  have hfr : ∀ j, j ≠ i + 1 → g j = g j := fun _ _ => rfl
  have hoth : ∀ x, (x ≠ 2 ∧ x ≠ 4) → N x = N x := fun _ _ => rfl
  obtain ⟨fp, h11, hpv⟩ := hP
  have h11o := h11
  have hyl := ysS_le (py := py) (jj := jj) (ss := ss) hn2 (fun k hk => (hpv k hk).2)
  have hyn : nn * (1048576 * 1048576 * 1000) ≤ 20 * (1048576 * 1048576 * 1000) := Nat.mul_le_mul_right _ hn2
  have hS : ysS py nn jj ss nn ≤ 10 ^ 17 := Nat.le_trans (hyl nn (Nat.le_refl _)) (by omega)
  refine lv_aload_n X.1 X.2.1 dX11_yesOf_0 rfl (lv_at hl 0 rfl) ?_
  refine x_iconst X dX11_yesOf_1 ?_
  refine x_lconst X 0 (by decide) dX11_yesOf_2 ?_
  refine x_cv (x_runV (k := 2) (As := [.int (iI (2)), .long (lI (0))]) (rest := []) X hW (c_X11_set l E A n _ g i (2) q N (0) hi hO (by omega) hN (by decide) (by decide)) (by omega) hO rfl gX11_yesOf_X11_set rfl rfl rfl (by decide +kernel) ⟨by decide, by decide⟩ rfl hl.1 rfl (Nat.le_of_ble_eq_true rfl) dX11_yesOf_3 ⟨Nat.zero_le _, Nat.zero_le _⟩) hW (fun g_3 H locs hp_3 hW => ?_)
  obtain ⟨hN, hf_3⟩ := hp_3
  obtain ⟨N_3, hN_3⟩ : ∃ N9 : Nat → Int, N9 = va_up N 2 (0) := ⟨_, rfl⟩
  rw [← hN_3] at hN
  have hO : g_3 i = .inr (11, [.ref (A (i + 1)), .ref (A (i + 2)), .ref (A (i + 3)), .ref (A (i + 4)), .int (iI (q 0)), .ref (A (i + 5)), .ref (A (i + 6)), .ref (A (i + 7)), .ref (A (i + 8)), .int (iI (q 1)), .ref (A (i + 9)), .ref (A (i + 10)), .ref (A (i + 11)), .int (iI (q 2)), .ref (A (i + 12)), .ref (A (i + 13)), .int (iI (q 3)), .ref (A (i + 14)), .ref (A (i + 15)), .ref (A (i + 16)), .int (iI (q 4))]) := by rw [hf_3 _ (by omega)]; exact hO
  have h11 : g_3 (i + 11) = aI E 21 fp := by rw [hf_3 _ (by omega)]; exact h11
  have v_2 : N_3 2 = 0 := by rw [hN_3, va_up_self]
  have hoth : ∀ x, (x ≠ 2 ∧ x ≠ 4) → N_3 x = N x := fun x hx => (congrFun hN_3 x).trans ((va_up_ne _ _ (by omega)).trans (hoth x hx))
  have hfr : ∀ j, j ≠ i + 1 → g_3 j = g j := fun j hj => (hf_3 j hj).trans (hfr j hj)
  refine x_iconst X dX11_yesOf_6 ?_
  refine x_seti (((0 + 1 : Nat) : Int)) rfl ?_
  refine lv_istore (lv' := [(4, .int (iI (((0 + 1 : Nat) : Int)))), (0, .ref (A (i))), (1, .int (iI ((nn : Int)))), (2, .int (iI ((jj : Int)))), (3, .int (iI ((ss : Int))))]) X.1 X.2.1 dX11_yesOf_7 hl (by decide) rfl (fun ls hl => ?_)
  have loop_9 : ∀ (fuel : Nat) (u : Nat) (N1 : Nat → Int) (g1 : Nat → va_E) (H : Heap) (locs : List Loc) (ls : Array Slot), (nn - u) < fuel → (u ≤ nn) → (MN E A g1 i N1) → (N1 2 = ((ysS py nn jj ss u : Nat) : Int)) → (∀ x, (x ≠ 2 ∧ x ≠ 4) → N1 x = N x) → (∀ j, j ≠ i + 1 → g1 j = g j) → wH E (wF A n sz) A n s_ g1 H locs → lv_has ls 5 [(0, .ref (A (i))), (1, .int (iI ((nn : Int)))), (2, .int (iI ((jj : Int)))), (3, .int (iI ((ss : Int)))), (4, .int (iI (((u + 1 : Nat) : Int))))] → W p_ l e_ ({ frames := 4, cells := 0, slots := 0, locals := 160 } : Room) s_ m_ [.ref (A (i)), .int (iI ((nn : Int))), .int (iI ((jj : Int))), .int (iI ((ss : Int)))].toArray below meth c_ H locs 0 0 (MQ below (va_Qv (fun g' => (∃ N' : Nat → Int, MN E A g' i N' ∧ N' 2 = ((ft nn * rkY py nn (nn - jj) ss : Nat) : Int) ∧ ∀ x, (x ≠ 2 ∧ x ≠ 4) → N' x = N x) ∧ ∀ j, j ≠ i + 1 → g' j = g j) (wAt E A n) (wF A n sz)) [.ref (A (i)), .int (iI ((nn : Int))), .int (iI ((jj : Int))), .int (iI ((ss : Int)))].toArray s_ 0 0 (wF A n sz)) (F0 m_ 9 ls []) := by
    intro fuel
    induction fuel with
    | zero => intro u N1 g1 H locs ls hm; exact absurd hm (Nat.not_lt_zero _)
    | succ fuel ih_9 =>
      intro u N1 g1 H locs ls hm hu hN v_2 hoth hfr hW hl
      have hO : g1 i = .inr (11, [.ref (A (i + 1)), .ref (A (i + 2)), .ref (A (i + 3)), .ref (A (i + 4)), .int (iI (q 0)), .ref (A (i + 5)), .ref (A (i + 6)), .ref (A (i + 7)), .ref (A (i + 8)), .int (iI (q 1)), .ref (A (i + 9)), .ref (A (i + 10)), .ref (A (i + 11)), .int (iI (q 2)), .ref (A (i + 12)), .ref (A (i + 13)), .int (iI (q 3)), .ref (A (i + 14)), .ref (A (i + 15)), .ref (A (i + 16)), .int (iI (q 4))]) := (hfr _ (by omega)).trans hOg
      have h11 : g1 (i + 11) = aI E 21 fp := (hfr _ (by omega)).trans h11o
      refine lv_iload X.1 X.2.1 dX11_yesOf_9 (lv_at hl 4 rfl) ?_
      refine lv_iload_n X.1 X.2.1 dX11_yesOf_11 rfl (lv_at hl 1 rfl) ?_
      refine x_icmp_gt (tgt := 65) X ⟨by omega, by omega⟩ ⟨by omega, by omega⟩ dX11_yesOf_12 (by decide) (fun b_12 => ?_) (fun b_12 => ?_)
      · rw [show u = nn from by omega] at v_2
        refine x_iconst X dX11_yesOf_65 ?_
        refine x_seti (((1 + 1 : Nat) : Int)) rfl ?_
        refine lv_istore (lv' := [(4, .int (iI (((1 + 1 : Nat) : Int)))), (0, .ref (A (i))), (1, .int (iI ((nn : Int)))), (2, .int (iI ((jj : Int)))), (3, .int (iI ((ss : Int))))]) X.1 X.2.1 dX11_yesOf_66 hl (by decide) rfl (fun ls hl => ?_)
        have loop_68 : ∀ (fuel : Nat) (e : Nat) (N2 : Nat → Int) (g2 : Nat → va_E) (H : Heap) (locs : List Loc) (ls : Array Slot), (jj - e) < fuel → (1 ≤ e) → (e ≤ jj) → (MN E A g2 i N2) → (N2 2 = ((ysS py nn jj ss nn * ft e : Nat) : Int)) → (∀ x, (x ≠ 2 ∧ x ≠ 4) → N2 x = N x) → (∀ j, j ≠ i + 1 → g2 j = g j) → wH E (wF A n sz) A n s_ g2 H locs → lv_has ls 5 [(0, .ref (A (i))), (1, .int (iI ((nn : Int)))), (2, .int (iI ((jj : Int)))), (3, .int (iI ((ss : Int)))), (4, .int (iI (((e + 1 : Nat) : Int))))] → W p_ l e_ ({ frames := 4, cells := 0, slots := 0, locals := 160 } : Room) s_ m_ [.ref (A (i)), .int (iI ((nn : Int))), .int (iI ((jj : Int))), .int (iI ((ss : Int)))].toArray below meth c_ H locs 0 0 (MQ below (va_Qv (fun g' => (∃ N' : Nat → Int, MN E A g' i N' ∧ N' 2 = ((ft nn * rkY py nn (nn - jj) ss : Nat) : Int) ∧ ∀ x, (x ≠ 2 ∧ x ≠ 4) → N' x = N x) ∧ ∀ j, j ≠ i + 1 → g' j = g j) (wAt E A n) (wF A n sz)) [.ref (A (i)), .int (iI ((nn : Int))), .int (iI ((jj : Int))), .int (iI ((ss : Int)))].toArray s_ 0 0 (wF A n sz)) (F0 m_ 68 ls []) := by
          intro fuel
          induction fuel with
          | zero => intro e N2 g2 H locs ls hm; exact absurd hm (Nat.not_lt_zero _)
          | succ fuel ih_68 =>
            intro e N2 g2 H locs ls hm he he2 hN v_2 hoth hfr hW hl
            have hO : g2 i = .inr (11, [.ref (A (i + 1)), .ref (A (i + 2)), .ref (A (i + 3)), .ref (A (i + 4)), .int (iI (q 0)), .ref (A (i + 5)), .ref (A (i + 6)), .ref (A (i + 7)), .ref (A (i + 8)), .int (iI (q 1)), .ref (A (i + 9)), .ref (A (i + 10)), .ref (A (i + 11)), .int (iI (q 2)), .ref (A (i + 12)), .ref (A (i + 13)), .int (iI (q 3)), .ref (A (i + 14)), .ref (A (i + 15)), .ref (A (i + 16)), .int (iI (q 4))]) := (hfr _ (by omega)).trans hOg
            have h11 : g2 (i + 11) = aI E 21 fp := (hfr _ (by omega)).trans h11o
            refine lv_iload X.1 X.2.1 dX11_yesOf_68 (lv_at hl 4 rfl) ?_
            refine lv_iload_n X.1 X.2.1 dX11_yesOf_70 rfl (lv_at hl 2 rfl) ?_
            refine x_icmp_gt (tgt := 88) X ⟨by omega, by omega⟩ ⟨by omega, by omega⟩ dX11_yesOf_71 (by decide) (fun b_71 => ?_) (fun b_71 => ?_)
            · rw [show e = jj from by omega] at v_2
              refine x_iconst X dX11_yesOf_88 ?_
              refine x_seti (((1 + 1 : Nat) : Int)) rfl ?_
              refine lv_istore (lv' := [(4, .int (iI (((1 + 1 : Nat) : Int)))), (0, .ref (A (i))), (1, .int (iI ((nn : Int)))), (2, .int (iI ((jj : Int)))), (3, .int (iI ((ss : Int))))]) X.1 X.2.1 dX11_yesOf_89 hl (by decide) rfl (fun ls hl => ?_)
              have loop_91 : ∀ (fuel : Nat) (e : Nat) (N3 : Nat → Int) (g3 : Nat → va_E) (H : Heap) (locs : List Loc) (ls : Array Slot), (nn - jj - e) < fuel → (1 ≤ e) → (e = 1 ∨ e ≤ nn - jj) → (MN E A g3 i N3) → (N3 2 = ((ysS py nn jj ss nn * ft jj * ft e : Nat) : Int)) → (∀ x, (x ≠ 2 ∧ x ≠ 4) → N3 x = N x) → (∀ j, j ≠ i + 1 → g3 j = g j) → wH E (wF A n sz) A n s_ g3 H locs → lv_has ls 5 [(0, .ref (A (i))), (1, .int (iI ((nn : Int)))), (2, .int (iI ((jj : Int)))), (3, .int (iI ((ss : Int)))), (4, .int (iI (((e + 1 : Nat) : Int))))] → W p_ l e_ ({ frames := 4, cells := 0, slots := 0, locals := 160 } : Room) s_ m_ [.ref (A (i)), .int (iI ((nn : Int))), .int (iI ((jj : Int))), .int (iI ((ss : Int)))].toArray below meth c_ H locs 0 0 (MQ below (va_Qv (fun g' => (∃ N' : Nat → Int, MN E A g' i N' ∧ N' 2 = ((ft nn * rkY py nn (nn - jj) ss : Nat) : Int) ∧ ∀ x, (x ≠ 2 ∧ x ≠ 4) → N' x = N x) ∧ ∀ j, j ≠ i + 1 → g' j = g j) (wAt E A n) (wF A n sz)) [.ref (A (i)), .int (iI ((nn : Int))), .int (iI ((jj : Int))), .int (iI ((ss : Int)))].toArray s_ 0 0 (wF A n sz)) (F0 m_ 91 ls []) := by
                intro fuel
                induction fuel with
                | zero => intro e N3 g3 H locs ls hm; exact absurd hm (Nat.not_lt_zero _)
                | succ fuel ih_91 =>
                  intro e N3 g3 H locs ls hm he he2 hN v_2 hoth hfr hW hl
                  have hO : g3 i = .inr (11, [.ref (A (i + 1)), .ref (A (i + 2)), .ref (A (i + 3)), .ref (A (i + 4)), .int (iI (q 0)), .ref (A (i + 5)), .ref (A (i + 6)), .ref (A (i + 7)), .ref (A (i + 8)), .int (iI (q 1)), .ref (A (i + 9)), .ref (A (i + 10)), .ref (A (i + 11)), .int (iI (q 2)), .ref (A (i + 12)), .ref (A (i + 13)), .int (iI (q 3)), .ref (A (i + 14)), .ref (A (i + 15)), .ref (A (i + 16)), .int (iI (q 4))]) := (hfr _ (by omega)).trans hOg
                  have h11 : g3 (i + 11) = aI E 21 fp := (hfr _ (by omega)).trans h11o
                  refine lv_iload X.1 X.2.1 dX11_yesOf_91 (lv_at hl 4 rfl) ?_
                  refine lv_iload_n X.1 X.2.1 dX11_yesOf_93 rfl (lv_at hl 1 rfl) ?_
                  refine lv_iload_n X.1 X.2.1 dX11_yesOf_94 rfl (lv_at hl 2 rfl) ?_
                  refine x_isub X dX11_yesOf_95 ?_
                  refine x_icmp_gt (tgt := 113) X ⟨by omega, by omega⟩ ⟨by omega, by omega⟩ dX11_yesOf_96 (by decide) (fun b_96 => ?_) (fun b_96 => ?_)
                  · rw [ft_end he he2 (show nn - jj < e + 1 by omega)] at v_2
                    refine lv_iload_n X.1 X.2.1 dX11_yesOf_113 rfl (lv_at hl 2 rfl) ?_
                    refine x_iconst X dX11_yesOf_114 ?_
                    refine x_iadd X dX11_yesOf_115 ?_
                    refine x_seti (((jj + 1 + 0 : Nat) : Int)) (by omega) ?_
                    refine lv_istore (lv' := [(4, .int (iI (((jj + 1 + 0 : Nat) : Int)))), (0, .ref (A (i))), (1, .int (iI ((nn : Int)))), (2, .int (iI ((jj : Int)))), (3, .int (iI ((ss : Int))))]) X.1 X.2.1 dX11_yesOf_116 hl (by decide) rfl (fun ls hl => ?_)
                    have loop_118 : ∀ (fuel : Nat) (u : Nat) (N4 : Nat → Int) (g4 : Nat → va_E) (H : Heap) (locs : List Loc) (ls : Array Slot), (nn - jj - u) < fuel → (u ≤ nn - jj) → (MN E A g4 i N4) → (N4 2 = ((ysS py nn jj ss nn * ft jj * ft (nn - jj) * pr (fun k => jj + 1 + k) u : Nat) : Int)) → (∀ x, (x ≠ 2 ∧ x ≠ 4) → N4 x = N x) → (∀ j, j ≠ i + 1 → g4 j = g j) → wH E (wF A n sz) A n s_ g4 H locs → lv_has ls 5 [(0, .ref (A (i))), (1, .int (iI ((nn : Int)))), (2, .int (iI ((jj : Int)))), (3, .int (iI ((ss : Int)))), (4, .int (iI (((jj + 1 + u : Nat) : Int))))] → W p_ l e_ ({ frames := 4, cells := 0, slots := 0, locals := 160 } : Room) s_ m_ [.ref (A (i)), .int (iI ((nn : Int))), .int (iI ((jj : Int))), .int (iI ((ss : Int)))].toArray below meth c_ H locs 0 0 (MQ below (va_Qv (fun g' => (∃ N' : Nat → Int, MN E A g' i N' ∧ N' 2 = ((ft nn * rkY py nn (nn - jj) ss : Nat) : Int) ∧ ∀ x, (x ≠ 2 ∧ x ≠ 4) → N' x = N x) ∧ ∀ j, j ≠ i + 1 → g' j = g j) (wAt E A n) (wF A n sz)) [.ref (A (i)), .int (iI ((nn : Int))), .int (iI ((jj : Int))), .int (iI ((ss : Int)))].toArray s_ 0 0 (wF A n sz)) (F0 m_ 118 ls []) := by
                      intro fuel
                      induction fuel with
                      | zero => intro u N4 g4 H locs ls hm; exact absurd hm (Nat.not_lt_zero _)
                      | succ fuel ih_118 =>
                        intro u N4 g4 H locs ls hm hu hN v_2 hoth hfr hW hl
                        have hO : g4 i = .inr (11, [.ref (A (i + 1)), .ref (A (i + 2)), .ref (A (i + 3)), .ref (A (i + 4)), .int (iI (q 0)), .ref (A (i + 5)), .ref (A (i + 6)), .ref (A (i + 7)), .ref (A (i + 8)), .int (iI (q 1)), .ref (A (i + 9)), .ref (A (i + 10)), .ref (A (i + 11)), .int (iI (q 2)), .ref (A (i + 12)), .ref (A (i + 13)), .int (iI (q 3)), .ref (A (i + 14)), .ref (A (i + 15)), .ref (A (i + 16)), .int (iI (q 4))]) := (hfr _ (by omega)).trans hOg
                        have h11 : g4 (i + 11) = aI E 21 fp := (hfr _ (by omega)).trans h11o
                        refine lv_iload X.1 X.2.1 dX11_yesOf_118 (lv_at hl 4 rfl) ?_
                        refine lv_iload_n X.1 X.2.1 dX11_yesOf_120 rfl (lv_at hl 1 rfl) ?_
                        refine x_icmp_gt (tgt := 138) X ⟨by omega, by omega⟩ ⟨by omega, by omega⟩ dX11_yesOf_121 (by decide) (fun b_121 => ?_) (fun b_121 => ?_)
                        · rw [show u = nn - jj from by omega, ys_end hs1 hs2 hj2] at v_2
                          exact x_vret X hr hlk hW (⟨⟨N4, hN, v_2, hoth⟩, hfr⟩) dX11_yesOf_138
                        · have hfe : ysS py nn jj ss nn * ft jj * ft (nn - jj) * pr (fun k => jj + 1 + k) u * (jj + 1 + u) = ysS py nn jj ss nn * ft jj * ft (nn - jj) * pr (fun k => jj + 1 + k) (u + 1) := Nat.mul_assoc _ _ _
                          have hca := cap_c (j := jj) (e := nn - jj) (u := u + 1) hS (by omega) (by omega)
                          refine lv_aload_n X.1 X.2.1 dX11_yesOf_124 rfl (lv_at hl 0 rfl) ?_
                          refine x_iconst X dX11_yesOf_125 ?_
                          refine lv_iload X.1 X.2.1 dX11_yesOf_126 (lv_at hl 4 rfl) ?_
                          refine x_i2l X ⟨by omega, by omega⟩ dX11_yesOf_128 ?_
                          refine x_cv (x_runV (k := 2) (As := [.int (iI (2)), .long (lI (((jj + 1 + u : Nat) : Int)))]) (rest := []) X hW (c_X11_times l E A n _ g4 i (2) q N4 (((jj + 1 + u : Nat) : Int)) hi hO (by omega) hN (by omega) (by omega) (by rw [v_2, ← Int.natCast_mul, hfe]; omega) (by rw [v_2, ← Int.natCast_mul, hfe]; omega)) (by omega) hO rfl gX11_yesOf_X11_times rfl rfl rfl (by decide +kernel) ⟨by decide, by decide⟩ rfl hl.1 rfl (Nat.le_of_ble_eq_true rfl) dX11_yesOf_129 ⟨Nat.zero_le _, Nat.zero_le _⟩) hW (fun g_129 H locs hp_129 hW => ?_)
                          obtain ⟨hN, hf_129⟩ := hp_129
                          obtain ⟨N_129, hN_129⟩ : ∃ N9 : Nat → Int, N9 = va_up N4 2 (N4 2 * (((jj + 1 + u : Nat) : Int))) := ⟨_, rfl⟩
                          rw [← hN_129] at hN
                          have hO : g_129 i = .inr (11, [.ref (A (i + 1)), .ref (A (i + 2)), .ref (A (i + 3)), .ref (A (i + 4)), .int (iI (q 0)), .ref (A (i + 5)), .ref (A (i + 6)), .ref (A (i + 7)), .ref (A (i + 8)), .int (iI (q 1)), .ref (A (i + 9)), .ref (A (i + 10)), .ref (A (i + 11)), .int (iI (q 2)), .ref (A (i + 12)), .ref (A (i + 13)), .int (iI (q 3)), .ref (A (i + 14)), .ref (A (i + 15)), .ref (A (i + 16)), .int (iI (q 4))]) := by rw [hf_129 _ (by omega)]; exact hO
                          have h11 : g_129 (i + 11) = aI E 21 fp := by rw [hf_129 _ (by omega)]; exact h11
                          have v_2 : N_129 2 = ((ysS py nn jj ss nn * ft jj * ft (nn - jj) * pr (fun k => jj + 1 + k) (u + 1) : Nat) : Int) := by rw [hN_129, va_up_self, v_2, ← Int.natCast_mul, hfe]
                          have hoth : ∀ x, (x ≠ 2 ∧ x ≠ 4) → N_129 x = N x := fun x hx => (congrFun hN_129 x).trans ((va_up_ne _ _ (by omega)).trans (hoth x hx))
                          have hfr : ∀ j, j ≠ i + 1 → g_129 j = g j := fun j hj => (hf_129 j hj).trans (hfr j hj)
                          refine lv_iinc (v := iI (((jj + 1 + (u + 1) : Nat) : Int))) (lv' := [(4, .int (iI (((jj + 1 + (u + 1) : Nat) : Int)))), (0, .ref (A (i))), (1, .int (iI ((nn : Int)))), (2, .int (iI ((jj : Int)))), (3, .int (iI ((ss : Int))))]) X.1 X.2.1 dX11_yesOf_132 hl (k := 4) rfl (by rw [show (Int32.ofInt (1)) = iI (1) from rfl, iI_add]; first | rfl | (congr 1; omega)) (by decide) rfl (fun ls hl => ?_)
                          refine lv_goto (tgt := 118) X.1 X.2.1 dX11_yesOf_135 (by decide) ?_
                          exact ih_118 (u + 1) N_129 g_129 _ _ _ (by omega) (by omega) hN v_2 hoth hfr hW (lv_sub hl [1, 2, 3, 4, 0] rfl)
                    exact loop_118 _ 0 N3 g3 _ _ _ (Nat.lt_succ_self _) (Nat.zero_le _) hN (by rw [v_2]; show _ = ((ysS py nn jj ss nn * ft jj * ft (nn - jj) * 1 : Nat) : Int); rw [Nat.mul_one]) hoth hfr hW (lv_sub hl [1, 2, 3, 4, 0] rfl)
                  · have hfe : ysS py nn jj ss nn * ft jj * ft e * (e + 1) = ysS py nn jj ss nn * ft jj * ft (e + 1) := Nat.mul_assoc _ _ _
                    have hca := cap_b (j := jj) (e := e + 1) hS (by omega)
                    refine lv_aload_n X.1 X.2.1 dX11_yesOf_99 rfl (lv_at hl 0 rfl) ?_
                    refine x_iconst X dX11_yesOf_100 ?_
                    refine lv_iload X.1 X.2.1 dX11_yesOf_101 (lv_at hl 4 rfl) ?_
                    refine x_i2l X ⟨by omega, by omega⟩ dX11_yesOf_103 ?_
                    refine x_cv (x_runV (k := 2) (As := [.int (iI (2)), .long (lI (((e + 1 : Nat) : Int)))]) (rest := []) X hW (c_X11_times l E A n _ g3 i (2) q N3 (((e + 1 : Nat) : Int)) hi hO (by omega) hN (by omega) (by omega) (by rw [v_2, ← Int.natCast_mul, hfe]; omega) (by rw [v_2, ← Int.natCast_mul, hfe]; omega)) (by omega) hO rfl gX11_yesOf_X11_times rfl rfl rfl (by decide +kernel) ⟨by decide, by decide⟩ rfl hl.1 rfl (Nat.le_of_ble_eq_true rfl) dX11_yesOf_104 ⟨Nat.zero_le _, Nat.zero_le _⟩) hW (fun g_104 H locs hp_104 hW => ?_)
                    obtain ⟨hN, hf_104⟩ := hp_104
                    obtain ⟨N_104, hN_104⟩ : ∃ N9 : Nat → Int, N9 = va_up N3 2 (N3 2 * (((e + 1 : Nat) : Int))) := ⟨_, rfl⟩
                    rw [← hN_104] at hN
                    have hO : g_104 i = .inr (11, [.ref (A (i + 1)), .ref (A (i + 2)), .ref (A (i + 3)), .ref (A (i + 4)), .int (iI (q 0)), .ref (A (i + 5)), .ref (A (i + 6)), .ref (A (i + 7)), .ref (A (i + 8)), .int (iI (q 1)), .ref (A (i + 9)), .ref (A (i + 10)), .ref (A (i + 11)), .int (iI (q 2)), .ref (A (i + 12)), .ref (A (i + 13)), .int (iI (q 3)), .ref (A (i + 14)), .ref (A (i + 15)), .ref (A (i + 16)), .int (iI (q 4))]) := by rw [hf_104 _ (by omega)]; exact hO
                    have h11 : g_104 (i + 11) = aI E 21 fp := by rw [hf_104 _ (by omega)]; exact h11
                    have v_2 : N_104 2 = ((ysS py nn jj ss nn * ft jj * ft (e + 1) : Nat) : Int) := by rw [hN_104, va_up_self, v_2, ← Int.natCast_mul, hfe]
                    have hoth : ∀ x, (x ≠ 2 ∧ x ≠ 4) → N_104 x = N x := fun x hx => (congrFun hN_104 x).trans ((va_up_ne _ _ (by omega)).trans (hoth x hx))
                    have hfr : ∀ j, j ≠ i + 1 → g_104 j = g j := fun j hj => (hf_104 j hj).trans (hfr j hj)
                    refine lv_iinc (v := iI (((e + 1 + 1 : Nat) : Int))) (lv' := [(4, .int (iI (((e + 1 + 1 : Nat) : Int)))), (0, .ref (A (i))), (1, .int (iI ((nn : Int)))), (2, .int (iI ((jj : Int)))), (3, .int (iI ((ss : Int))))]) X.1 X.2.1 dX11_yesOf_107 hl (k := 4) rfl (by rw [show (Int32.ofInt (1)) = iI (1) from rfl, iI_add]; rfl) (by decide) rfl (fun ls hl => ?_)
                    refine lv_goto (tgt := 91) X.1 X.2.1 dX11_yesOf_110 (by decide) ?_
                    exact ih_91 (e + 1) N_104 g_104 _ _ _ (by omega) (by omega) (by omega) hN v_2 hoth hfr hW (lv_sub hl [1, 2, 3, 4, 0] rfl)
              exact loop_91 _ 1 N2 g2 _ _ _ (Nat.lt_succ_self _) (Nat.le_refl _) (Or.inl rfl) hN (by rw [v_2, show ft 1 = 1 from rfl, Nat.mul_one]) hoth hfr hW (lv_sub hl [1, 2, 3, 4, 0] rfl)
            · have hfe : ysS py nn jj ss nn * ft e * (e + 1) = ysS py nn jj ss nn * ft (e + 1) := Nat.mul_assoc _ _ _
              have hca := cap_a (j := e + 1) hS (by omega)
              refine lv_aload_n X.1 X.2.1 dX11_yesOf_74 rfl (lv_at hl 0 rfl) ?_
              refine x_iconst X dX11_yesOf_75 ?_
              refine lv_iload X.1 X.2.1 dX11_yesOf_76 (lv_at hl 4 rfl) ?_
              refine x_i2l X ⟨by omega, by omega⟩ dX11_yesOf_78 ?_
              refine x_cv (x_runV (k := 2) (As := [.int (iI (2)), .long (lI (((e + 1 : Nat) : Int)))]) (rest := []) X hW (c_X11_times l E A n _ g2 i (2) q N2 (((e + 1 : Nat) : Int)) hi hO (by omega) hN (by omega) (by omega) (by rw [v_2, ← Int.natCast_mul, hfe]; omega) (by rw [v_2, ← Int.natCast_mul, hfe]; omega)) (by omega) hO rfl gX11_yesOf_X11_times rfl rfl rfl (by decide +kernel) ⟨by decide, by decide⟩ rfl hl.1 rfl (Nat.le_of_ble_eq_true rfl) dX11_yesOf_79 ⟨Nat.zero_le _, Nat.zero_le _⟩) hW (fun g_79 H locs hp_79 hW => ?_)
              obtain ⟨hN, hf_79⟩ := hp_79
              obtain ⟨N_79, hN_79⟩ : ∃ N9 : Nat → Int, N9 = va_up N2 2 (N2 2 * (((e + 1 : Nat) : Int))) := ⟨_, rfl⟩
              rw [← hN_79] at hN
              have hO : g_79 i = .inr (11, [.ref (A (i + 1)), .ref (A (i + 2)), .ref (A (i + 3)), .ref (A (i + 4)), .int (iI (q 0)), .ref (A (i + 5)), .ref (A (i + 6)), .ref (A (i + 7)), .ref (A (i + 8)), .int (iI (q 1)), .ref (A (i + 9)), .ref (A (i + 10)), .ref (A (i + 11)), .int (iI (q 2)), .ref (A (i + 12)), .ref (A (i + 13)), .int (iI (q 3)), .ref (A (i + 14)), .ref (A (i + 15)), .ref (A (i + 16)), .int (iI (q 4))]) := by rw [hf_79 _ (by omega)]; exact hO
              have h11 : g_79 (i + 11) = aI E 21 fp := by rw [hf_79 _ (by omega)]; exact h11
              have v_2 : N_79 2 = ((ysS py nn jj ss nn * ft (e + 1) : Nat) : Int) := by rw [hN_79, va_up_self, v_2, ← Int.natCast_mul, hfe]
              have hoth : ∀ x, (x ≠ 2 ∧ x ≠ 4) → N_79 x = N x := fun x hx => (congrFun hN_79 x).trans ((va_up_ne _ _ (by omega)).trans (hoth x hx))
              have hfr : ∀ j, j ≠ i + 1 → g_79 j = g j := fun j hj => (hf_79 j hj).trans (hfr j hj)
              refine lv_iinc (v := iI (((e + 1 + 1 : Nat) : Int))) (lv' := [(4, .int (iI (((e + 1 + 1 : Nat) : Int)))), (0, .ref (A (i))), (1, .int (iI ((nn : Int)))), (2, .int (iI ((jj : Int)))), (3, .int (iI ((ss : Int))))]) X.1 X.2.1 dX11_yesOf_82 hl (k := 4) rfl (by rw [show (Int32.ofInt (1)) = iI (1) from rfl, iI_add]; rfl) (by decide) rfl (fun ls hl => ?_)
              refine lv_goto (tgt := 68) X.1 X.2.1 dX11_yesOf_85 (by decide) ?_
              exact ih_68 (e + 1) N_79 g_79 _ _ _ (by omega) (by omega) (by omega) hN v_2 hoth hfr hW (lv_sub hl [1, 2, 3, 4, 0] rfl)
        exact loop_68 _ 1 N1 g1 _ _ _ (Nat.lt_succ_self _) (Nat.le_refl _) (by omega) hN (by rw [v_2, show ft 1 = 1 from rfl, Nat.mul_one]) hoth hfr hW (lv_sub hl [1, 2, 3, 4, 0] rfl)
      · have hcb1 := cb_20 (n := u) (by omega) (ss - 1)
        have hcb2 := cb_20 (n := nn - 1 - u) (by omega) (jj - ss)
        have hcb3 : cb (u) (ss - 1) * cb (nn - 1 - u) (jj - ss) ≤ 1048576 * 1048576 := Nat.mul_le_mul hcb1 hcb2
        have hpu := (hpv (u + 1) (by omega)).2
        have hys : ysS py nn jj ss (u + 1) = ysS py nn jj ss u + cb (u) (ss - 1) * cb (nn - 1 - u) (jj - ss) * py (u + 1) := rfl
        have hyu := hyl (u + 1) (by omega)
        have hyu2 : (u + 1) * (1048576 * 1048576 * 1000) ≤ 20 * (1048576 * 1048576 * 1000) := Nat.mul_le_mul_right _ (by omega)
        refine lv_aload_n X.1 X.2.1 dX11_yesOf_15 rfl (lv_at hl 0 rfl) ?_
        refine x_iconst X dX11_yesOf_16 ?_
        refine lv_iload X.1 X.2.1 dX11_yesOf_17 (lv_at hl 4 rfl) ?_
        refine x_iconst X dX11_yesOf_19 ?_
        refine x_isub X dX11_yesOf_20 ?_
        refine x_seti (((u : Nat) : Int)) (by omega) ?_
        refine lv_iload_n X.1 X.2.1 dX11_yesOf_21 rfl (lv_at hl 3 rfl) ?_
        refine x_iconst X dX11_yesOf_22 ?_
        refine x_isub X dX11_yesOf_23 ?_
        refine x_seti (((ss - 1 : Nat) : Int)) (by omega) ?_
        refine x_cl (x_runS (k := 2) (As := [.int (iI (((u : Nat) : Int))), .int (iI (((ss - 1 : Nat) : Int)))]) (rest := [.int (iI (4)), .ref (A (i))]) X hW (c_X11_choose l E A n _ g1 (u) (ss - 1) (by omega) (by omega)) gX11_yesOf_X11_choose rfl rfl rfl (by decide +kernel) ⟨by decide, by decide⟩ rfl hl.1 rfl (Nat.le_of_ble_eq_true rfl) dX11_yesOf_24 ⟨Nat.zero_le _, Nat.zero_le _⟩) hW (fun r_24 g_24 H locs hp_24 hW => ?_)
        obtain ⟨hr_24, he_24⟩ := hp_24
        rw [he_24] at hW
        subst hr_24
        refine x_cv (x_runV (k := 2) (As := [.int (iI (4)), .long (lI (((cb (u) (ss - 1) : Nat) : Int)))]) (rest := []) X hW (c_X11_set l E A n _ g1 i (4) q N1 (((cb (u) (ss - 1) : Nat) : Int)) hi hO (by omega) hN (by omega) (by omega)) (by omega) hO rfl gX11_yesOf_X11_set rfl rfl rfl (by decide +kernel) ⟨by decide, by decide⟩ rfl hl.1 rfl (Nat.le_of_ble_eq_true rfl) dX11_yesOf_27 ⟨Nat.zero_le _, Nat.zero_le _⟩) hW (fun g_27 H locs hp_27 hW => ?_)
        obtain ⟨hN, hf_27⟩ := hp_27
        obtain ⟨N_27, hN_27⟩ : ∃ N9 : Nat → Int, N9 = va_up N1 4 (((cb (u) (ss - 1) : Nat) : Int)) := ⟨_, rfl⟩
        rw [← hN_27] at hN
        have hO : g_27 i = .inr (11, [.ref (A (i + 1)), .ref (A (i + 2)), .ref (A (i + 3)), .ref (A (i + 4)), .int (iI (q 0)), .ref (A (i + 5)), .ref (A (i + 6)), .ref (A (i + 7)), .ref (A (i + 8)), .int (iI (q 1)), .ref (A (i + 9)), .ref (A (i + 10)), .ref (A (i + 11)), .int (iI (q 2)), .ref (A (i + 12)), .ref (A (i + 13)), .int (iI (q 3)), .ref (A (i + 14)), .ref (A (i + 15)), .ref (A (i + 16)), .int (iI (q 4))]) := by rw [hf_27 _ (by omega)]; exact hO
        have h11 : g_27 (i + 11) = aI E 21 fp := by rw [hf_27 _ (by omega)]; exact h11
        have v_4 : N_27 4 = ((cb (u) (ss - 1) : Nat) : Int) := by rw [hN_27, va_up_self]
        have v_2 : N_27 2 = ((ysS py nn jj ss u : Nat) : Int) := by rw [hN_27, va_up_ne _ _ (by omega)]; exact v_2
        have hoth : ∀ x, (x ≠ 2 ∧ x ≠ 4) → N_27 x = N x := fun x hx => (congrFun hN_27 x).trans ((va_up_ne _ _ (by omega)).trans (hoth x hx))
        have hfr : ∀ j, j ≠ i + 1 → g_27 j = g j := fun j hj => (hf_27 j hj).trans (hfr j hj)
        refine lv_aload_n X.1 X.2.1 dX11_yesOf_30 rfl (lv_at hl 0 rfl) ?_
        refine x_iconst X dX11_yesOf_31 ?_
        refine lv_iload_n X.1 X.2.1 dX11_yesOf_32 rfl (lv_at hl 1 rfl) ?_
        refine lv_iload X.1 X.2.1 dX11_yesOf_33 (lv_at hl 4 rfl) ?_
        refine x_isub X dX11_yesOf_35 ?_
        refine x_seti (((nn - 1 - u : Nat) : Int)) (by omega) ?_
        refine lv_iload_n X.1 X.2.1 dX11_yesOf_36 rfl (lv_at hl 2 rfl) ?_
        refine lv_iload_n X.1 X.2.1 dX11_yesOf_37 rfl (lv_at hl 3 rfl) ?_
        refine x_isub X dX11_yesOf_38 ?_
        refine x_seti (((jj - ss : Nat) : Int)) (by omega) ?_
        refine x_cl (x_runS (k := 2) (As := [.int (iI (((nn - 1 - u : Nat) : Int))), .int (iI (((jj - ss : Nat) : Int)))]) (rest := [.int (iI (4)), .ref (A (i))]) X hW (c_X11_choose l E A n _ g_27 (nn - 1 - u) (jj - ss) (by omega) (by omega)) gX11_yesOf_X11_choose rfl rfl rfl (by decide +kernel) ⟨by decide, by decide⟩ rfl hl.1 rfl (Nat.le_of_ble_eq_true rfl) dX11_yesOf_39 ⟨Nat.zero_le _, Nat.zero_le _⟩) hW (fun r_39 g_39 H locs hp_39 hW => ?_)
        obtain ⟨hr_39, he_39⟩ := hp_39
        rw [he_39] at hW
        subst hr_39
        refine x_cv (x_runV (k := 2) (As := [.int (iI (4)), .long (lI (((cb (nn - 1 - u) (jj - ss) : Nat) : Int)))]) (rest := []) X hW (c_X11_times l E A n _ g_27 i (4) q N_27 (((cb (nn - 1 - u) (jj - ss) : Nat) : Int)) hi hO (by omega) hN (by omega) (by omega) (by rw [v_4, ← Int.natCast_mul]; omega) (by rw [v_4, ← Int.natCast_mul]; omega)) (by omega) hO rfl gX11_yesOf_X11_times rfl rfl rfl (by decide +kernel) ⟨by decide, by decide⟩ rfl hl.1 rfl (Nat.le_of_ble_eq_true rfl) dX11_yesOf_42 ⟨Nat.zero_le _, Nat.zero_le _⟩) hW (fun g_42 H locs hp_42 hW => ?_)
        obtain ⟨hN, hf_42⟩ := hp_42
        obtain ⟨N_42, hN_42⟩ : ∃ N9 : Nat → Int, N9 = va_up N_27 4 (N_27 4 * (((cb (nn - 1 - u) (jj - ss) : Nat) : Int))) := ⟨_, rfl⟩
        rw [← hN_42] at hN
        have hO : g_42 i = .inr (11, [.ref (A (i + 1)), .ref (A (i + 2)), .ref (A (i + 3)), .ref (A (i + 4)), .int (iI (q 0)), .ref (A (i + 5)), .ref (A (i + 6)), .ref (A (i + 7)), .ref (A (i + 8)), .int (iI (q 1)), .ref (A (i + 9)), .ref (A (i + 10)), .ref (A (i + 11)), .int (iI (q 2)), .ref (A (i + 12)), .ref (A (i + 13)), .int (iI (q 3)), .ref (A (i + 14)), .ref (A (i + 15)), .ref (A (i + 16)), .int (iI (q 4))]) := by rw [hf_42 _ (by omega)]; exact hO
        have h11 : g_42 (i + 11) = aI E 21 fp := by rw [hf_42 _ (by omega)]; exact h11
        have v_4 : N_42 4 = ((cb (u) (ss - 1) * cb (nn - 1 - u) (jj - ss) : Nat) : Int) := by rw [hN_42, va_up_self, v_4, ← Int.natCast_mul]
        have v_2 : N_42 2 = ((ysS py nn jj ss u : Nat) : Int) := by rw [hN_42, va_up_ne _ _ (by omega)]; exact v_2
        have hoth : ∀ x, (x ≠ 2 ∧ x ≠ 4) → N_42 x = N x := fun x hx => (congrFun hN_42 x).trans ((va_up_ne _ _ (by omega)).trans (hoth x hx))
        have hfr : ∀ j, j ≠ i + 1 → g_42 j = g j := fun j hj => (hf_42 j hj).trans (hfr j hj)
        refine lv_aload_n X.1 X.2.1 dX11_yesOf_45 rfl (lv_at hl 0 rfl) ?_
        refine x_iconst X dX11_yesOf_46 ?_
        refine x_iconst X dX11_yesOf_47 ?_
        refine lv_aload_n X.1 X.2.1 dX11_yesOf_48 rfl (lv_at hl 0 rfl) ?_
        refine x_get (C := RX11) (T := TX11) (N := 21) X hW (by omega) hO rfl lk_0 12 (by decide) lk_1 rfl dX11_yesOf_49 ?_
        refine lv_iload X.1 X.2.1 dX11_yesOf_52 (lv_at hl 4 rfl) ?_
        refine x_iald X hW (by omega) h11 (v := iI (((py (u + 1) : Nat) : Int))) (u + 1) (by omega) (by omega) (by decide) ((hpv (u + 1) (by omega)).1) dX11_yesOf_54 ?_
        refine x_i2l X ⟨by omega, by omega⟩ dX11_yesOf_55 ?_
        refine x_cv (x_runV (k := 3) (As := [.int (iI (2)), .int (iI (4)), .long (lI (((py (u + 1) : Nat) : Int)))]) (rest := []) X hW (c_X11_more l E A n _ g_42 i (2) (4) q N_42 (((py (u + 1) : Nat) : Int)) hi hO (by omega) (by omega) (by omega) hN (by omega) (by omega) (by rw [v_2, v_4, ← Int.natCast_mul, ← Int.natCast_add, ← hys]; omega) (by rw [v_2, v_4, ← Int.natCast_mul, ← Int.natCast_add, ← hys]; omega)) (by omega) hO rfl gX11_yesOf_X11_more rfl rfl rfl (by decide +kernel) ⟨by decide, by decide⟩ rfl hl.1 rfl (Nat.le_of_ble_eq_true rfl) dX11_yesOf_56 ⟨Nat.zero_le _, Nat.zero_le _⟩) hW (fun g_56 H locs hp_56 hW => ?_)
        obtain ⟨hN, hf_56⟩ := hp_56
        obtain ⟨N_56, hN_56⟩ : ∃ N9 : Nat → Int, N9 = va_up N_42 2 (N_42 2 + N_42 4 * (((py (u + 1) : Nat) : Int))) := ⟨_, rfl⟩
        rw [← hN_56] at hN
        have hO : g_56 i = .inr (11, [.ref (A (i + 1)), .ref (A (i + 2)), .ref (A (i + 3)), .ref (A (i + 4)), .int (iI (q 0)), .ref (A (i + 5)), .ref (A (i + 6)), .ref (A (i + 7)), .ref (A (i + 8)), .int (iI (q 1)), .ref (A (i + 9)), .ref (A (i + 10)), .ref (A (i + 11)), .int (iI (q 2)), .ref (A (i + 12)), .ref (A (i + 13)), .int (iI (q 3)), .ref (A (i + 14)), .ref (A (i + 15)), .ref (A (i + 16)), .int (iI (q 4))]) := by rw [hf_56 _ (by omega)]; exact hO
        have h11 : g_56 (i + 11) = aI E 21 fp := by rw [hf_56 _ (by omega)]; exact h11
        have v_2 : N_56 2 = ((ysS py nn jj ss (u + 1) : Nat) : Int) := by rw [hN_56, va_up_self, v_2, v_4, ← Int.natCast_mul, ← Int.natCast_add, ← hys]
        have v_4 : N_56 4 = ((cb (u) (ss - 1) * cb (nn - 1 - u) (jj - ss) : Nat) : Int) := by rw [hN_56, va_up_ne _ _ (by omega)]; exact v_4
        have hoth : ∀ x, (x ≠ 2 ∧ x ≠ 4) → N_56 x = N x := fun x hx => (congrFun hN_56 x).trans ((va_up_ne _ _ (by omega)).trans (hoth x hx))
        have hfr : ∀ j, j ≠ i + 1 → g_56 j = g j := fun j hj => (hf_56 j hj).trans (hfr j hj)
        refine lv_iinc (v := iI (((u + 1 + 1 : Nat) : Int))) (lv' := [(4, .int (iI (((u + 1 + 1 : Nat) : Int)))), (0, .ref (A (i))), (1, .int (iI ((nn : Int)))), (2, .int (iI ((jj : Int)))), (3, .int (iI ((ss : Int))))]) X.1 X.2.1 dX11_yesOf_59 hl (k := 4) rfl (by rw [show (Int32.ofInt (1)) = iI (1) from rfl, iI_add]; rfl) (by decide) rfl (fun ls hl => ?_)
        refine lv_goto (tgt := 9) X.1 X.2.1 dX11_yesOf_62 (by decide) ?_
        exact ih_9 (u + 1) N_56 g_56 _ _ _ (by omega) (by omega) hN v_2 hoth hfr hW (lv_sub hl [1, 2, 3, 4, 0] rfl)
  exact loop_9 _ 0 N_3 g_3 _ _ _ (Nat.lt_succ_self _) (Nat.zero_le _) hN v_2 hoth hfr hW (lv_sub hl [1, 2, 3, 4, 0] rfl)

theorem ga_yes {py : Nat → Nat} {nn d u : Nat} (h : rkN py nn d ≤ rkY py nn d (u + 1)) : ((ft nn * gaS (rkN py nn d) (rkY py nn d) u : Nat) : Int) + ((ft nn * rkY py nn d (u + 1) : Nat) : Int) * 1 = ((ft nn * gaS (rkN py nn d) (rkY py nn d) (u + 1) : Nat) : Int) := by
  rw [Int.mul_one, ← Int.natCast_add, ← Nat.mul_add]
  show _ = ((ft nn * (gaS (rkN py nn d) (rkY py nn d) u + if rkN py nn d ≤ rkY py nn d (u + 1) then rkY py nn d (u + 1) else rkN py nn d) : Nat) : Int)
  rw [if_pos h]
theorem ga_no {py : Nat → Nat} {nn d u : Nat} (h : ¬ rkN py nn d ≤ rkY py nn d (u + 1)) : ((ft nn * gaS (rkN py nn d) (rkY py nn d) u : Nat) : Int) + ((ft nn * rkN py nn d : Nat) : Int) * 1 = ((ft nn * gaS (rkN py nn d) (rkY py nn d) (u + 1) : Nat) : Int) := by
  rw [Int.mul_one, ← Int.natCast_add, ← Nat.mul_add]
  show _ = ((ft nn * (gaS (rkN py nn d) (rkY py nn d) u + if rkN py nn d ≤ rkY py nn d (u + 1) then rkY py nn d (u + 1) else rkN py nn d) : Nat) : Int)
  rw [if_neg h]
theorem gaS_mono {nv : Nat} {yv : Nat → Nat} {a b : Nat} (h : a ≤ b) : gaS nv yv a ≤ gaS nv yv b := by
  induction b with
  | zero => rw [show a = 0 from by omega]; exact Nat.le_refl _
  | succ b ih =>
    by_cases e : a = b + 1
    · rw [e]; exact Nat.le_refl _
    · exact Nat.le_trans (ih (by omega)) (Nat.le_add_right _ _)
theorem ft_cap {k : Nat} (h : k ≤ 20) : ft k ≤ 20 ^ 20 := Nat.le_trans (ft_le k h) (Nat.pow_le_pow_right (by decide) h)
theorem rk_cap2 {py : Nat → Nat} {nn : Nat} (hn : nn ≤ 20) (hp : ∀ k, k < 21 → py k ≤ 1000) {d : Nat} (hd : d ≤ nn) : ft nn * rkN py nn d ≤ 20 ^ 20 * 10 ^ 30 := by
  refine Nat.mul_le_mul (ft_cap hn) (Nat.le_trans (rk_cap hn (fun s h1 h2 => hp s (by omega)) d hd).1 ?_)
  exact Nat.le_trans (Nat.mul_le_mul_left 1000 (Nat.pow_le_pow_right (by decide) (show d ≤ 20 by omega))) (by decide)

set_option maxHeartbeats 4000000 in
set_option maxRecDepth 100000 in
/-- goesOn -/
theorem c_X11_goesOn (l : Launch) (E : wE) (A : Nat → Nat) (n sz : Nat) (g : Nat → va_E) (i : Nat) (q : Nat → Int) (N : Nat → Int) (py : Nat → Nat) (nn : Nat) (hi : i + 16 < n) (hO : g i = mO A i q) (hN : MN E A g i N) (hP : PayM E A g i py) (hn1 : 1 ≤ nn) (hn2 : nn ≤ 20) : Met l yX11_goesOn wsX11_goesOn ({ frames := 5, cells := 0, slots := 0, locals := 200 } : Room) (va_Pc [.ref (A (i)), .int (iI ((nn : Int)))] (wPre E A n sz g)) (va_Qv (fun g' => (∃ N' : Nat → Int, MN E A g' i N' ∧ (∀ e, 1 ≤ e → e ≤ nn → N' (10 + (nn - e)) = ((ft nn * rkN py nn e : Nat) : Int)) ∧ ∀ x, x < 2 → N' x = N x) ∧ ∀ j, j ≠ i + 1 → g' j = g j) (wAt E A n) (wF A n sz)) 0 0 (wF A n sz) := by
  refine x_met (cc := cX11_goesOn) (maxL := 5) (ret := none) [.ref (A (i)), .int (iI ((nn : Int)))] (by decide) rfl (Nat.le_of_ble_eq_true rfl) ?_
  intro p_ e_ s_ m_ below meth c_ ls X hr hlk hnm hsz hW hl
  have hl : lv_has ls 5 [(0, .ref (A (i))), (1, .int (iI ((nn : Int))))] := hl
  have hO : g i = .inr (11, [.ref (A (i + 1)), .ref (A (i + 2)), .ref (A (i + 3)), .ref (A (i + 4)), .int (iI (q 0)), .ref (A (i + 5)), .ref (A (i + 6)), .ref (A (i + 7)), .ref (A (i + 8)), .int (iI (q 1)), .ref (A (i + 9)), .ref (A (i + 10)), .ref (A (i + 11)), .int (iI (q 2)), .ref (A (i + 12)), .ref (A (i + 13)), .int (iI (q 3)), .ref (A (i + 14)), .ref (A (i + 15)), .ref (A (i + 16)), .int (iI (q 4))]) := hO
  have hOg := hO
  have hfr : ∀ j, j ≠ i + 1 → g j = g j := fun _ _ => rfl
  have hoth : ∀ x, x < 2 → N x = N x := fun _ _ => rfl
  obtain ⟨fp, h11, hpv⟩ := id hP
  have hftp := ft_pos nn
  refine lv_iload_n X.1 X.2.1 dX11_goesOn_0 rfl (lv_at hl 1 rfl) ?_
  refine x_iconst X dX11_goesOn_1 ?_
  refine x_isub X dX11_goesOn_2 ?_
  refine x_seti ((nn : Int) - 1 - ((0 : Nat) : Int)) (by omega) ?_
  refine lv_istore_n (lv' := [(2, .int (iI ((nn : Int) - 1 - ((0 : Nat) : Int)))), (0, .ref (A (i))), (1, .int (iI ((nn : Int))))]) X.1 X.2.1 dX11_goesOn_3 rfl hl (by decide) rfl (fun ls hl => ?_)
  have loop_4 : ∀ (fuel : Nat) (d : Nat) (N1 : Nat → Int) (g1 : Nat → va_E) (H : Heap) (locs : List Loc) (ls : Array Slot), (nn - d) < fuel → (d ≤ nn) → (MN E A g1 i N1) → (∀ e, 1 ≤ e → e ≤ d → N1 (10 + (nn - e)) = ((ft nn * rkN py nn e : Nat) : Int)) → (∀ x, x < 2 → N1 x = N x) → (∀ j, j ≠ i + 1 → g1 j = g j) → wH E (wF A n sz) A n s_ g1 H locs → lv_has ls 5 [(0, .ref (A (i))), (1, .int (iI ((nn : Int)))), (2, .int (iI ((nn : Int) - 1 - (d : Int))))] → W p_ l e_ ({ frames := 5, cells := 0, slots := 0, locals := 200 } : Room) s_ m_ [.ref (A (i)), .int (iI ((nn : Int)))].toArray below meth c_ H locs 0 0 (MQ below (va_Qv (fun g' => (∃ N' : Nat → Int, MN E A g' i N' ∧ (∀ e, 1 ≤ e → e ≤ nn → N' (10 + (nn - e)) = ((ft nn * rkN py nn e : Nat) : Int)) ∧ ∀ x, x < 2 → N' x = N x) ∧ ∀ j, j ≠ i + 1 → g' j = g j) (wAt E A n) (wF A n sz)) [.ref (A (i)), .int (iI ((nn : Int)))].toArray s_ 0 0 (wF A n sz)) (F0 m_ 4 ls []) := by
    intro fuel
    induction fuel with
    | zero => intro d N1 g1 H locs ls hm; exact absurd hm (Nat.not_lt_zero _)
    | succ fuel ih_4 =>
      intro d N1 g1 H locs ls hm hd hN hT hoth hfr hW hl
      have hO : g1 i = .inr (11, [.ref (A (i + 1)), .ref (A (i + 2)), .ref (A (i + 3)), .ref (A (i + 4)), .int (iI (q 0)), .ref (A (i + 5)), .ref (A (i + 6)), .ref (A (i + 7)), .ref (A (i + 8)), .int (iI (q 1)), .ref (A (i + 9)), .ref (A (i + 10)), .ref (A (i + 11)), .int (iI (q 2)), .ref (A (i + 12)), .ref (A (i + 13)), .int (iI (q 3)), .ref (A (i + 14)), .ref (A (i + 15)), .ref (A (i + 16)), .int (iI (q 4))]) := (hfr _ (by omega)).trans hOg
      refine lv_iload_n X.1 X.2.1 dX11_goesOn_4 rfl (lv_at hl 2 rfl) ?_
      refine x_if_lt (tgt := 99) X ⟨by omega, by omega⟩ dX11_goesOn_5 (by decide) (fun b_5 => ?_) (fun b_5 => ?_)
      · rw [show d = nn from by omega] at hT
        exact x_vret X hr hlk hW (⟨⟨N1, hN, hT, hoth⟩, hfr⟩) dX11_goesOn_99
      · obtain ⟨t, ht⟩ : ∃ t, nn = t + 1 + d := ⟨nn - 1 - d, by omega⟩
        have hotI : ∀ x, (x ≠ 2 ∧ x ≠ 4 ∧ x ≠ 10 + t) → N1 x = N1 x := fun _ _ => rfl
        have hcN := rk_cap2 hn2 (fun k hk => (hpv k hk).2) (d := d + 1) (by omega)
        have hRs : rkN py nn (d + 1) = gaS (rkN py nn d) (rkY py nn d) (nn - d) := rfl
        refine lv_aload_n X.1 X.2.1 dX11_goesOn_8 rfl (lv_at hl 0 rfl) ?_
        refine x_bipush X (by decide) dX11_goesOn_9 ?_
        refine lv_iload_n X.1 X.2.1 dX11_goesOn_11 rfl (lv_at hl 2 rfl) ?_
        refine x_iadd X dX11_goesOn_12 ?_
        refine x_seti (((10 + t : Nat) : Int)) (by omega) ?_
        refine x_lconst X 0 (by decide) dX11_goesOn_13 ?_
        refine x_cv (x_runV (k := 2) (As := [.int (iI (((10 + t : Nat) : Int))), .long (lI (0))]) (rest := []) X hW (c_X11_set l E A n _ g1 i (10 + t) q N1 (0) hi hO (by omega) hN (by decide) (by decide)) (by omega) hO rfl gX11_goesOn_X11_set rfl rfl rfl (by decide +kernel) ⟨by decide, by decide⟩ rfl hl.1 rfl (Nat.le_of_ble_eq_true rfl) dX11_goesOn_14 ⟨Nat.zero_le _, Nat.zero_le _⟩) hW (fun g_14 H locs hp_14 hW => ?_)
        obtain ⟨hN, hf_14⟩ := hp_14
        obtain ⟨N_14, hN_14⟩ : ∃ N9 : Nat → Int, N9 = va_up N1 (10 + t) (0) := ⟨_, rfl⟩
        rw [← hN_14] at hN
        have hO : g_14 i = .inr (11, [.ref (A (i + 1)), .ref (A (i + 2)), .ref (A (i + 3)), .ref (A (i + 4)), .int (iI (q 0)), .ref (A (i + 5)), .ref (A (i + 6)), .ref (A (i + 7)), .ref (A (i + 8)), .int (iI (q 1)), .ref (A (i + 9)), .ref (A (i + 10)), .ref (A (i + 11)), .int (iI (q 2)), .ref (A (i + 12)), .ref (A (i + 13)), .int (iI (q 3)), .ref (A (i + 14)), .ref (A (i + 15)), .ref (A (i + 16)), .int (iI (q 4))]) := by rw [hf_14 _ (by omega)]; exact hO
        have v_10___t : N_14 (10 + t) = 0 := by rw [hN_14, va_up_self]
        have hoth : ∀ x, x < 2 → N_14 x = N x := fun x hx => (congrFun hN_14 x).trans ((va_up_ne _ _ (by omega)).trans (hoth x hx))
        have hotI : ∀ x, (x ≠ 2 ∧ x ≠ 4 ∧ x ≠ 10 + t) → N_14 x = N1 x := fun x hx => (congrFun hN_14 x).trans ((va_up_ne _ _ (by omega)).trans (hotI x hx))
        have hfr : ∀ j, j ≠ i + 1 → g_14 j = g j := fun j hj => (hf_14 j hj).trans (hfr j hj)
        refine x_iconst X dX11_goesOn_17 ?_
        refine x_seti (((0 + 1 : Nat) : Int)) rfl ?_
        refine lv_istore_n (lv' := [(3, .int (iI (((0 + 1 : Nat) : Int)))), (0, .ref (A (i))), (1, .int (iI ((nn : Int)))), (2, .int (iI ((nn : Int) - 1 - (d : Int))))]) X.1 X.2.1 dX11_goesOn_18 rfl hl (by decide) rfl (fun ls hl => ?_)
        have loop_19 : ∀ (fuel : Nat) (u : Nat) (N2 : Nat → Int) (g2 : Nat → va_E) (H : Heap) (locs : List Loc) (ls : Array Slot), (nn - d - u) < fuel → (u ≤ nn - d) → (MN E A g2 i N2) → (N2 (10 + t) = ((ft nn * gaS (rkN py nn d) (rkY py nn d) u : Nat) : Int)) → (∀ x, (x ≠ 2 ∧ x ≠ 4 ∧ x ≠ 10 + t) → N2 x = N1 x) → (∀ x, x < 2 → N2 x = N x) → (∀ j, j ≠ i + 1 → g2 j = g j) → wH E (wF A n sz) A n s_ g2 H locs → lv_has ls 5 [(0, .ref (A (i))), (1, .int (iI ((nn : Int)))), (2, .int (iI ((nn : Int) - 1 - (d : Int)))), (3, .int (iI (((u + 1 : Nat) : Int))))] → W p_ l e_ ({ frames := 5, cells := 0, slots := 0, locals := 200 } : Room) s_ m_ [.ref (A (i)), .int (iI ((nn : Int)))].toArray below meth c_ H locs 0 0 (MQ below (va_Qv (fun g' => (∃ N' : Nat → Int, MN E A g' i N' ∧ (∀ e, 1 ≤ e → e ≤ nn → N' (10 + (nn - e)) = ((ft nn * rkN py nn e : Nat) : Int)) ∧ ∀ x, x < 2 → N' x = N x) ∧ ∀ j, j ≠ i + 1 → g' j = g j) (wAt E A n) (wF A n sz)) [.ref (A (i)), .int (iI ((nn : Int)))].toArray s_ 0 0 (wF A n sz)) (F0 m_ 19 ls []) := by
          intro fuel
          induction fuel with
          | zero => intro u N2 g2 H locs ls hm; exact absurd hm (Nat.not_lt_zero _)
          | succ fuel ih_19 =>
            intro u N2 g2 H locs ls hm hu hN v_10___t hotI hoth hfr hW hl
            have hO : g2 i = .inr (11, [.ref (A (i + 1)), .ref (A (i + 2)), .ref (A (i + 3)), .ref (A (i + 4)), .int (iI (q 0)), .ref (A (i + 5)), .ref (A (i + 6)), .ref (A (i + 7)), .ref (A (i + 8)), .int (iI (q 1)), .ref (A (i + 9)), .ref (A (i + 10)), .ref (A (i + 11)), .int (iI (q 2)), .ref (A (i + 12)), .ref (A (i + 13)), .int (iI (q 3)), .ref (A (i + 14)), .ref (A (i + 15)), .ref (A (i + 16)), .int (iI (q 4))]) := (hfr _ (by omega)).trans hOg
            have hotIo := hotI
            refine lv_iload_n X.1 X.2.1 dX11_goesOn_19 rfl (lv_at hl 3 rfl) ?_
            refine lv_iload_n X.1 X.2.1 dX11_goesOn_20 rfl (lv_at hl 2 rfl) ?_
            refine x_iconst X dX11_goesOn_21 ?_
            refine x_iadd X dX11_goesOn_22 ?_
            refine x_icmp_gt (tgt := 93) X ⟨by omega, by omega⟩ ⟨by omega, by omega⟩ dX11_goesOn_23 (by decide) (fun b_23 => ?_) (fun b_23 => ?_)
            · have v_10___t : N2 (10 + t) = ((ft nn * rkN py nn (d + 1) : Nat) : Int) := by rw [v_10___t, hRs, show u = nn - d from by omega]
              refine lv_iinc (v := iI ((nn : Int) - 1 - ((d + 1 : Nat) : Int))) (lv' := [(2, .int (iI ((nn : Int) - 1 - ((d + 1 : Nat) : Int)))), (0, .ref (A (i))), (1, .int (iI ((nn : Int)))), (3, .int (iI (((u + 1 : Nat) : Int))))]) X.1 X.2.1 dX11_goesOn_93 hl (k := 2) rfl (by rw [show (Int32.ofInt (-1)) = iI (-1) from rfl, iI_add]; congr 1; omega) (by decide) rfl (fun ls hl => ?_)
              refine lv_goto (tgt := 4) X.1 X.2.1 dX11_goesOn_96 (by decide) ?_
              exact ih_4 (d + 1) N2 g2 _ _ _ (by omega) (by omega) hN (fun e h8 h9 => if ee : e = d + 1 then (by rw [ee, show nn - (d + 1) = t from by omega]; exact v_10___t) else (by rw [hotI _ (by omega)]; exact hT e h8 (by omega))) hoth hfr hW (lv_sub hl [1, 2, 0] rfl)
            · have hgm : ft nn * gaS (rkN py nn d) (rkY py nn d) (u + 1) ≤ ft nn * rkN py nn (d + 1) := by rw [hRs]; exact Nat.mul_le_mul_left _ (gaS_mono (by omega))
              refine lv_aload_n X.1 X.2.1 dX11_goesOn_26 rfl (lv_at hl 0 rfl) ?_
              refine lv_iload_n X.1 X.2.1 dX11_goesOn_27 rfl (lv_at hl 1 rfl) ?_
              refine lv_iload_n X.1 X.2.1 dX11_goesOn_28 rfl (lv_at hl 2 rfl) ?_
              refine x_iconst X dX11_goesOn_29 ?_
              refine x_iadd X dX11_goesOn_30 ?_
              refine x_seti (((t + 1 : Nat) : Int)) (by omega) ?_
              refine lv_iload_n X.1 X.2.1 dX11_goesOn_31 rfl (lv_at hl 3 rfl) ?_
              refine x_seti (((u + 1 : Nat) : Int)) rfl ?_
              refine x_cv (x_runV (k := 3) (As := [.int (iI ((nn : Int))), .int (iI (((t + 1 : Nat) : Int))), .int (iI (((u + 1 : Nat) : Int)))]) (rest := []) X hW (c_X11_yesOf l E A n _ g2 i q N2 py nn (t + 1) (u + 1) hi hO hN (hP.frame (hfr _ (by omega))) (by omega) (by omega) (by omega) (by omega)) (by omega) hO rfl gX11_goesOn_X11_yesOf rfl rfl rfl (by decide +kernel) ⟨by decide, by decide⟩ rfl hl.1 rfl (Nat.le_of_ble_eq_true rfl) dX11_goesOn_32 ⟨Nat.zero_le _, Nat.zero_le _⟩) hW (fun g_32 H locs hp_32 hW => ?_)
              obtain ⟨⟨N_32, hN, v_2, ho_32⟩, hf_32⟩ := hp_32
              have hfr : ∀ j, j ≠ i + 1 → g_32 j = g j := fun j hj => (hf_32 j hj).trans (hfr j hj)
              have hoth : ∀ x, x < 2 → N_32 x = N x := fun x hx => (ho_32 x (by omega)).trans (hoth x hx)
              have hotI : ∀ x, (x ≠ 2 ∧ x ≠ 4 ∧ x ≠ 10 + t) → N_32 x = N1 x := fun x hx => (ho_32 x (by omega)).trans (hotI x hx)
              rw [show nn - (t + 1) = d from by omega] at v_2
              have hO : g_32 i = .inr (11, [.ref (A (i + 1)), .ref (A (i + 2)), .ref (A (i + 3)), .ref (A (i + 4)), .int (iI (q 0)), .ref (A (i + 5)), .ref (A (i + 6)), .ref (A (i + 7)), .ref (A (i + 8)), .int (iI (q 1)), .ref (A (i + 9)), .ref (A (i + 10)), .ref (A (i + 11)), .int (iI (q 2)), .ref (A (i + 12)), .ref (A (i + 13)), .int (iI (q 3)), .ref (A (i + 14)), .ref (A (i + 15)), .ref (A (i + 16)), .int (iI (q 4))]) := by rw [hf_32 _ (by omega)]; exact hO
              have v_10___t := (ho_32 (10 + t) (by omega)).trans v_10___t
              refine lv_iload_n X.1 X.2.1 dX11_goesOn_35 rfl (lv_at hl 2 rfl) ?_
              refine x_iconst X dX11_goesOn_36 ?_
              refine x_iadd X dX11_goesOn_37 ?_
              refine lv_iload_n X.1 X.2.1 dX11_goesOn_38 rfl (lv_at hl 1 rfl) ?_
              refine x_icmp_eq (tgt := 56) X ⟨by omega, by omega⟩ ⟨by omega, by omega⟩ dX11_goesOn_39 (by decide) (fun b_39 => ?_) (fun b_39 => ?_)
              · have hd0 : d = 0 := by omega
                have hgs := ga_yes (py := py) (nn := nn) (d := d) (u := u) (by rw [hd0]; exact Nat.zero_le _)
                refine x_iconst X dX11_goesOn_56 ?_
                refine lv_goto (tgt := 61) X.1 X.2.1 dX11_goesOn_57 (by decide) ?_
                refine lv_istore (lv' := [(4, .int (iI (1))), (0, .ref (A (i))), (1, .int (iI ((nn : Int)))), (2, .int (iI ((nn : Int) - 1 - (d : Int)))), (3, .int (iI (((u + 1 : Nat) : Int))))]) X.1 X.2.1 dX11_goesOn_61 hl (by decide) rfl (fun ls hl => ?_)
                refine lv_aload_n X.1 X.2.1 dX11_goesOn_63 rfl (lv_at hl 1 rfl) ?_
                refine x_bipush X (by decide) dX11_goesOn_64 ?_
                refine lv_iload_n X.1 X.2.1 dX11_goesOn_66 rfl (lv_at hl 3 rfl) ?_
                refine x_iadd X dX11_goesOn_67 ?_
                refine x_seti (((10 + t : Nat) : Int)) (by omega) ?_
                refine lv_iload X.1 X.2.1 dX11_goesOn_68 (lv_at hl 0 rfl) ?_
                refine x_if_eq (tgt := 77) X ⟨by decide, by decide⟩ dX11_goesOn_70 (by decide) (fun b_70 => ?_) (fun b_70 => ?_)
                · exact absurd b_70 (by decide)
                · refine x_iconst X dX11_goesOn_73 ?_
                  refine lv_goto (tgt := 83) X.1 X.2.1 dX11_goesOn_74 (by decide) ?_
                  refine x_lconst X 1 (by decide) dX11_goesOn_83 ?_
                  refine x_cv (x_runV (k := 3) (As := [.int (iI (((10 + t : Nat) : Int))), .int (iI (2)), .long (lI (1))]) (rest := []) X hW (c_X11_more l E A n _ g_32 i (10 + t) (2) q N_32 (1) hi hO (by omega) (by omega) (by omega) hN (by decide) (by decide) (by rw [v_10___t, v_2, hgs]; omega) (by rw [v_10___t, v_2, hgs]; omega)) (by omega) hO rfl gX11_goesOn_X11_more rfl rfl rfl (by decide +kernel) ⟨by decide, by decide⟩ rfl hl.1 rfl (Nat.le_of_ble_eq_true rfl) dX11_goesOn_84 ⟨Nat.zero_le _, Nat.zero_le _⟩) hW (fun g_84 H locs hp_84 hW => ?_)
                  obtain ⟨hN, hf_84⟩ := hp_84
                  obtain ⟨N_84, hN_84⟩ : ∃ N9 : Nat → Int, N9 = va_up N_32 (10 + t) (N_32 (10 + t) + N_32 2 * 1) := ⟨_, rfl⟩
                  rw [← hN_84] at hN
                  have hO : g_84 i = .inr (11, [.ref (A (i + 1)), .ref (A (i + 2)), .ref (A (i + 3)), .ref (A (i + 4)), .int (iI (q 0)), .ref (A (i + 5)), .ref (A (i + 6)), .ref (A (i + 7)), .ref (A (i + 8)), .int (iI (q 1)), .ref (A (i + 9)), .ref (A (i + 10)), .ref (A (i + 11)), .int (iI (q 2)), .ref (A (i + 12)), .ref (A (i + 13)), .int (iI (q 3)), .ref (A (i + 14)), .ref (A (i + 15)), .ref (A (i + 16)), .int (iI (q 4))]) := by rw [hf_84 _ (by omega)]; exact hO
                  have v_10___t : N_84 (10 + t) = ((ft nn * gaS (rkN py nn d) (rkY py nn d) (u + 1) : Nat) : Int) := by rw [hN_84, va_up_self, v_10___t, v_2, hgs]
                  have v_2 : N_84 2 = ((ft nn * rkY py nn (d) (u + 1) : Nat) : Int) := by rw [hN_84, va_up_ne _ _ (by omega)]; exact v_2
                  have hoth : ∀ x, x < 2 → N_84 x = N x := fun x hx => (congrFun hN_84 x).trans ((va_up_ne _ _ (by omega)).trans (hoth x hx))
                  have hotI : ∀ x, (x ≠ 2 ∧ x ≠ 4 ∧ x ≠ 10 + t) → N_84 x = N1 x := fun x hx => (congrFun hN_84 x).trans ((va_up_ne _ _ (by omega)).trans (hotI x hx))
                  have hfr : ∀ j, j ≠ i + 1 → g_84 j = g j := fun j hj => (hf_84 j hj).trans (hfr j hj)
                  refine lv_iinc (v := iI (((u + 1 + 1 : Nat) : Int))) (lv' := [(3, .int (iI (((u + 1 + 1 : Nat) : Int)))), (4, .int (iI (1))), (0, .ref (A (i))), (1, .int (iI ((nn : Int)))), (2, .int (iI ((nn : Int) - 1 - (d : Int))))]) X.1 X.2.1 dX11_goesOn_87 hl (k := 4) rfl (by rw [show (Int32.ofInt (1)) = iI (1) from rfl, iI_add]; rfl) (by decide) rfl (fun ls hl => ?_)
                  refine lv_goto (tgt := 19) X.1 X.2.1 dX11_goesOn_90 (by decide) ?_
                  exact ih_19 (u + 1) N_84 g_84 _ _ _ (by omega) (by omega) hN v_10___t hotI hoth hfr hW (lv_sub hl [2, 3, 4, 0] rfl)
              · have v_11___t : N_32 (11 + t) = ((ft nn * rkN py nn d : Nat) : Int) := by rw [ho_32 _ (by omega), hotIo _ (by omega), show 11 + t = 10 + (nn - d) from by omega]; exact hT d (by omega) (Nat.le_refl _)
                refine lv_aload_n X.1 X.2.1 dX11_goesOn_42 rfl (lv_at hl 0 rfl) ?_
                refine x_iconst X dX11_goesOn_43 ?_
                refine x_bipush X (by decide) dX11_goesOn_44 ?_
                refine lv_iload_n X.1 X.2.1 dX11_goesOn_46 rfl (lv_at hl 2 rfl) ?_
                refine x_iadd X dX11_goesOn_47 ?_
                refine x_iconst X dX11_goesOn_48 ?_
                refine x_iadd X dX11_goesOn_49 ?_
                refine x_seti (((11 + t : Nat) : Int)) (by omega) ?_
                refine x_ci (x_runV (k := 2) (As := [.int (iI (2)), .int (iI (((11 + t : Nat) : Int)))]) (rest := []) X hW (c_X11_compared l E A n _ g_32 i (2) (11 + t) q N_32 hi hO (by omega) (by omega) hN) (by omega) hO rfl gX11_goesOn_X11_compared rfl rfl rfl (by decide +kernel) ⟨by decide, by decide⟩ rfl hl.1 rfl (Nat.le_of_ble_eq_true rfl) dX11_goesOn_50 ⟨Nat.zero_le _, Nat.zero_le _⟩) hW (fun r_50 g_50 H locs hp_50 hW => ?_)
                obtain ⟨hr_50, he_50⟩ := hp_50
                rw [he_50] at hW
                rw [v_2, v_11___t] at hr_50
                subst hr_50
                refine x_if_lt (tgt := 60) X (cmp_rng _ _) dX11_goesOn_53 (by decide) (fun b_53 => ?_) (fun b_53 => ?_)
                · have hgs := ga_no (py := py) (nn := nn) (d := d) (u := u) (fun h9 => absurd (cmp_lt b_53) (Nat.not_lt.mpr (Nat.mul_le_mul_left _ h9)))
                  refine x_iconst X dX11_goesOn_60 ?_
                  refine lv_istore (lv' := [(4, .int (iI (0))), (0, .ref (A (i))), (1, .int (iI ((nn : Int)))), (2, .int (iI ((nn : Int) - 1 - (d : Int)))), (3, .int (iI (((u + 1 : Nat) : Int))))]) X.1 X.2.1 dX11_goesOn_61 hl (by decide) rfl (fun ls hl => ?_)
                  refine lv_aload_n X.1 X.2.1 dX11_goesOn_63 rfl (lv_at hl 1 rfl) ?_
                  refine x_bipush X (by decide) dX11_goesOn_64 ?_
                  refine lv_iload_n X.1 X.2.1 dX11_goesOn_66 rfl (lv_at hl 3 rfl) ?_
                  refine x_iadd X dX11_goesOn_67 ?_
                  refine x_seti (((10 + t : Nat) : Int)) (by omega) ?_
                  refine lv_iload X.1 X.2.1 dX11_goesOn_68 (lv_at hl 0 rfl) ?_
                  refine x_if_eq (tgt := 77) X ⟨by decide, by decide⟩ dX11_goesOn_70 (by decide) (fun b_70 => ?_) (fun b_70 => ?_)
                  · refine x_bipush X (by decide) dX11_goesOn_77 ?_
                    refine lv_iload_n X.1 X.2.1 dX11_goesOn_79 rfl (lv_at hl 3 rfl) ?_
                    refine x_iadd X dX11_goesOn_80 ?_
                    refine x_iconst X dX11_goesOn_81 ?_
                    refine x_iadd X dX11_goesOn_82 ?_
                    refine x_seti (((11 + t : Nat) : Int)) (by omega) ?_
                    refine x_lconst X 1 (by decide) dX11_goesOn_83 ?_
                    refine x_cv (x_runV (k := 3) (As := [.int (iI (((10 + t : Nat) : Int))), .int (iI (((11 + t : Nat) : Int))), .long (lI (1))]) (rest := []) X hW (c_X11_more l E A n _ g_32 i (10 + t) (11 + t) q N_32 (1) hi hO (by omega) (by omega) (by omega) hN (by decide) (by decide) (by rw [v_10___t, v_11___t, hgs]; omega) (by rw [v_10___t, v_11___t, hgs]; omega)) (by omega) hO rfl gX11_goesOn_X11_more rfl rfl rfl (by decide +kernel) ⟨by decide, by decide⟩ rfl hl.1 rfl (Nat.le_of_ble_eq_true rfl) dX11_goesOn_84 ⟨Nat.zero_le _, Nat.zero_le _⟩) hW (fun g_84 H locs hp_84 hW => ?_)
                    obtain ⟨hN, hf_84⟩ := hp_84
                    obtain ⟨N_84, hN_84⟩ : ∃ N9 : Nat → Int, N9 = va_up N_32 (10 + t) (N_32 (10 + t) + N_32 (11 + t) * 1) := ⟨_, rfl⟩
                    rw [← hN_84] at hN
                    have hO : g_84 i = .inr (11, [.ref (A (i + 1)), .ref (A (i + 2)), .ref (A (i + 3)), .ref (A (i + 4)), .int (iI (q 0)), .ref (A (i + 5)), .ref (A (i + 6)), .ref (A (i + 7)), .ref (A (i + 8)), .int (iI (q 1)), .ref (A (i + 9)), .ref (A (i + 10)), .ref (A (i + 11)), .int (iI (q 2)), .ref (A (i + 12)), .ref (A (i + 13)), .int (iI (q 3)), .ref (A (i + 14)), .ref (A (i + 15)), .ref (A (i + 16)), .int (iI (q 4))]) := by rw [hf_84 _ (by omega)]; exact hO
                    have v_10___t : N_84 (10 + t) = ((ft nn * gaS (rkN py nn d) (rkY py nn d) (u + 1) : Nat) : Int) := by rw [hN_84, va_up_self, v_10___t, v_11___t, hgs]
                    have v_2 : N_84 2 = ((ft nn * rkY py nn (d) (u + 1) : Nat) : Int) := by rw [hN_84, va_up_ne _ _ (by omega)]; exact v_2
                    have v_11___t : N_84 (11 + t) = ((ft nn * rkN py nn d : Nat) : Int) := by rw [hN_84, va_up_ne _ _ (by omega)]; exact v_11___t
                    have hoth : ∀ x, x < 2 → N_84 x = N x := fun x hx => (congrFun hN_84 x).trans ((va_up_ne _ _ (by omega)).trans (hoth x hx))
                    have hotI : ∀ x, (x ≠ 2 ∧ x ≠ 4 ∧ x ≠ 10 + t) → N_84 x = N1 x := fun x hx => (congrFun hN_84 x).trans ((va_up_ne _ _ (by omega)).trans (hotI x hx))
                    have hfr : ∀ j, j ≠ i + 1 → g_84 j = g j := fun j hj => (hf_84 j hj).trans (hfr j hj)
                    refine lv_iinc (v := iI (((u + 1 + 1 : Nat) : Int))) (lv' := [(3, .int (iI (((u + 1 + 1 : Nat) : Int)))), (4, .int (iI (0))), (0, .ref (A (i))), (1, .int (iI ((nn : Int)))), (2, .int (iI ((nn : Int) - 1 - (d : Int))))]) X.1 X.2.1 dX11_goesOn_87 hl (k := 4) rfl (by rw [show (Int32.ofInt (1)) = iI (1) from rfl, iI_add]; rfl) (by decide) rfl (fun ls hl => ?_)
                    refine lv_goto (tgt := 19) X.1 X.2.1 dX11_goesOn_90 (by decide) ?_
                    exact ih_19 (u + 1) N_84 g_84 _ _ _ (by omega) (by omega) hN v_10___t hotI hoth hfr hW (lv_sub hl [2, 3, 4, 0] rfl)
                  · exact absurd (by decide) b_70
                · have hgs := ga_yes (py := py) (nn := nn) (d := d) (u := u) (Nat.le_of_mul_le_mul_left (cmp_ge b_53) hftp)
                  refine x_iconst X dX11_goesOn_56 ?_
                  refine lv_goto (tgt := 61) X.1 X.2.1 dX11_goesOn_57 (by decide) ?_
                  refine lv_istore (lv' := [(4, .int (iI (1))), (0, .ref (A (i))), (1, .int (iI ((nn : Int)))), (2, .int (iI ((nn : Int) - 1 - (d : Int)))), (3, .int (iI (((u + 1 : Nat) : Int))))]) X.1 X.2.1 dX11_goesOn_61 hl (by decide) rfl (fun ls hl => ?_)
                  refine lv_aload_n X.1 X.2.1 dX11_goesOn_63 rfl (lv_at hl 1 rfl) ?_
                  refine x_bipush X (by decide) dX11_goesOn_64 ?_
                  refine lv_iload_n X.1 X.2.1 dX11_goesOn_66 rfl (lv_at hl 3 rfl) ?_
                  refine x_iadd X dX11_goesOn_67 ?_
                  refine x_seti (((10 + t : Nat) : Int)) (by omega) ?_
                  refine lv_iload X.1 X.2.1 dX11_goesOn_68 (lv_at hl 0 rfl) ?_
                  refine x_if_eq (tgt := 77) X ⟨by decide, by decide⟩ dX11_goesOn_70 (by decide) (fun b_70 => ?_) (fun b_70 => ?_)
                  · exact absurd b_70 (by decide)
                  · refine x_iconst X dX11_goesOn_73 ?_
                    refine lv_goto (tgt := 83) X.1 X.2.1 dX11_goesOn_74 (by decide) ?_
                    refine x_lconst X 1 (by decide) dX11_goesOn_83 ?_
                    refine x_cv (x_runV (k := 3) (As := [.int (iI (((10 + t : Nat) : Int))), .int (iI (2)), .long (lI (1))]) (rest := []) X hW (c_X11_more l E A n _ g_32 i (10 + t) (2) q N_32 (1) hi hO (by omega) (by omega) (by omega) hN (by decide) (by decide) (by rw [v_10___t, v_2, hgs]; omega) (by rw [v_10___t, v_2, hgs]; omega)) (by omega) hO rfl gX11_goesOn_X11_more rfl rfl rfl (by decide +kernel) ⟨by decide, by decide⟩ rfl hl.1 rfl (Nat.le_of_ble_eq_true rfl) dX11_goesOn_84 ⟨Nat.zero_le _, Nat.zero_le _⟩) hW (fun g_84 H locs hp_84 hW => ?_)
                    obtain ⟨hN, hf_84⟩ := hp_84
                    obtain ⟨N_84, hN_84⟩ : ∃ N9 : Nat → Int, N9 = va_up N_32 (10 + t) (N_32 (10 + t) + N_32 2 * 1) := ⟨_, rfl⟩
                    rw [← hN_84] at hN
                    have hO : g_84 i = .inr (11, [.ref (A (i + 1)), .ref (A (i + 2)), .ref (A (i + 3)), .ref (A (i + 4)), .int (iI (q 0)), .ref (A (i + 5)), .ref (A (i + 6)), .ref (A (i + 7)), .ref (A (i + 8)), .int (iI (q 1)), .ref (A (i + 9)), .ref (A (i + 10)), .ref (A (i + 11)), .int (iI (q 2)), .ref (A (i + 12)), .ref (A (i + 13)), .int (iI (q 3)), .ref (A (i + 14)), .ref (A (i + 15)), .ref (A (i + 16)), .int (iI (q 4))]) := by rw [hf_84 _ (by omega)]; exact hO
                    have v_10___t : N_84 (10 + t) = ((ft nn * gaS (rkN py nn d) (rkY py nn d) (u + 1) : Nat) : Int) := by rw [hN_84, va_up_self, v_10___t, v_2, hgs]
                    have v_2 : N_84 2 = ((ft nn * rkY py nn (d) (u + 1) : Nat) : Int) := by rw [hN_84, va_up_ne _ _ (by omega)]; exact v_2
                    have v_11___t : N_84 (11 + t) = ((ft nn * rkN py nn d : Nat) : Int) := by rw [hN_84, va_up_ne _ _ (by omega)]; exact v_11___t
                    have hoth : ∀ x, x < 2 → N_84 x = N x := fun x hx => (congrFun hN_84 x).trans ((va_up_ne _ _ (by omega)).trans (hoth x hx))
                    have hotI : ∀ x, (x ≠ 2 ∧ x ≠ 4 ∧ x ≠ 10 + t) → N_84 x = N1 x := fun x hx => (congrFun hN_84 x).trans ((va_up_ne _ _ (by omega)).trans (hotI x hx))
                    have hfr : ∀ j, j ≠ i + 1 → g_84 j = g j := fun j hj => (hf_84 j hj).trans (hfr j hj)
                    refine lv_iinc (v := iI (((u + 1 + 1 : Nat) : Int))) (lv' := [(3, .int (iI (((u + 1 + 1 : Nat) : Int)))), (4, .int (iI (1))), (0, .ref (A (i))), (1, .int (iI ((nn : Int)))), (2, .int (iI ((nn : Int) - 1 - (d : Int))))]) X.1 X.2.1 dX11_goesOn_87 hl (k := 4) rfl (by rw [show (Int32.ofInt (1)) = iI (1) from rfl, iI_add]; rfl) (by decide) rfl (fun ls hl => ?_)
                    refine lv_goto (tgt := 19) X.1 X.2.1 dX11_goesOn_90 (by decide) ?_
                    exact ih_19 (u + 1) N_84 g_84 _ _ _ (by omega) (by omega) hN v_10___t hotI hoth hfr hW (lv_sub hl [2, 3, 4, 0] rfl)
        exact loop_19 _ 0 N_14 g_14 _ _ _ (Nat.lt_succ_self _) (Nat.zero_le _) hN (by rw [v_10___t]; show _ = ((ft nn * 0 : Nat) : Int); rw [Nat.mul_zero]; rfl) hotI hoth hfr hW (lv_sub hl [1, 2, 3, 0] rfl)
  exact loop_4 _ 0 N g _ _ _ (Nat.lt_succ_self _) (Nat.zero_le _) hN (fun e h8 h9 => absurd h8 (by omega)) hoth hfr hW (lv_sub hl [1, 2, 0] rfl)

set_option maxHeartbeats 4000000 in
set_option maxRecDepth 100000 in
/-- ranks -/
theorem c_X11_ranks (l : Launch) (E : wE) (A : Nat → Nat) (n sz : Nat) (g : Nat → va_E) (i : Nat) (q : Nat → Int) (N : Nat → Int) (py : Nat → Nat) (z : Int) (hi : i + 16 < n) (hO : g i = mO A i q) (hN : MN E A g i N) (hP : PayM E A g i py) (hz : I32 z) : Met l yX11_ranks wsX11_ranks ({ frames := 7, cells := 0, slots := 0, locals := 260 } : Room) (va_Pc [.ref (A (i)), .int (iI (z))] (wPre E A n sz g)) (va_Qi (fun r g' => r = iI (if 1 ≤ z ∧ z ≤ 20 then 1 else 0) ∧ (1 ≤ z ∧ z ≤ 20 → MR E A g' i (rdT ((ft z.toNat * rkN py z.toNat z.toNat : Nat) : Int) (ft z.toNat * ft z.toNat)) (rdB ((ft z.toNat * rkN py z.toNat z.toNat : Nat) : Int) (ft z.toNat * ft z.toNat))) ∧ (¬ (1 ≤ z ∧ z ≤ 20) → g' = g) ∧ ∀ j, j ≠ i + 1 → g' j = g j) (wAt E A n) (wF A n sz)) 0 0 (wF A n sz) := by
  refine x_met (cc := cX11_ranks) (maxL := 3) (ret := (some .boolean)) [.ref (A (i)), .int (iI (z))] (by decide) rfl (Nat.le_of_ble_eq_true rfl) ?_
  intro p_ e_ s_ m_ below meth c_ ls X hr hlk hnm hsz hW hl
  have hl : lv_has ls 3 [(0, .ref (A (i))), (1, .int (iI (z)))] := hl
  have hO : g i = .inr (11, [.ref (A (i + 1)), .ref (A (i + 2)), .ref (A (i + 3)), .ref (A (i + 4)), .int (iI (q 0)), .ref (A (i + 5)), .ref (A (i + 6)), .ref (A (i + 7)), .ref (A (i + 8)), .int (iI (q 1)), .ref (A (i + 9)), .ref (A (i + 10)), .ref (A (i + 11)), .int (iI (q 2)), .ref (A (i + 12)), .ref (A (i + 13)), .int (iI (q 3)), .ref (A (i + 14)), .ref (A (i + 15)), .ref (A (i + 16)), .int (iI (q 4))]) := hO
  have hOg := hO
  have hfr : ∀ j, j ≠ i + 1 → g j = g j := fun _ _ => rfl
  obtain ⟨fp, h11, hpv⟩ := id hP
  have hz1 := hz.1
  have hz2 := hz.2
  refine lv_iload_n X.1 X.2.1 dX11_ranks_0 rfl (lv_at hl 1 rfl) ?_
  refine x_iconst X dX11_ranks_1 ?_
  refine x_icmp_lt (tgt := 11) X hz ⟨by decide, by decide⟩ dX11_ranks_2 (by decide) (fun b_2 => ?_) (fun b_2 => ?_)
  · refine x_iconst X dX11_ranks_11 ?_
    exact x_zret X hr hlk (by decide) hW (⟨by rw [if_neg (by omega)], fun h => absurd h (by omega), fun _ => rfl, fun _ _ => rfl⟩) dX11_ranks_12
  · refine lv_iload_n X.1 X.2.1 dX11_ranks_5 rfl (lv_at hl 1 rfl) ?_
    refine x_bipush X (by decide) dX11_ranks_6 ?_
    refine x_icmp_le (tgt := 13) X hz ⟨by decide, by decide⟩ dX11_ranks_8 (by decide) (fun b_8 => ?_) (fun b_8 => ?_)
    · obtain ⟨nn, hnn⟩ : ∃ nn, nn = z.toNat := ⟨_, rfl⟩
      have hzn : z = (nn : Int) := by omega
      have hcN := rk_cap2 (nn := nn) (by omega) (fun k hk => (hpv k hk).2) (d := nn) (Nat.le_refl _)
      have hfp := ft_pos nn
      have hff : ft nn * ft nn ≤ 20 ^ 20 * 20 ^ 20 := Nat.mul_le_mul (ft_cap (by omega)) (ft_cap (by omega))
      refine lv_aload_n X.1 X.2.1 dX11_ranks_13 rfl (lv_at hl 0 rfl) ?_
      refine lv_iload_n X.1 X.2.1 dX11_ranks_14 rfl (lv_at hl 1 rfl) ?_
      refine x_seti ((nn : Int)) hzn ?_
      refine x_cv (x_runV (k := 1) (As := [.int (iI ((nn : Int)))]) (rest := []) X hW (c_X11_goesOn l E A n _ g i q N py nn hi hO hN (hP.frame (hfr _ (by omega))) (by omega) (by omega)) (by omega) hO rfl gX11_ranks_X11_goesOn rfl rfl rfl (by decide +kernel) ⟨by decide, by decide⟩ rfl hl.1 rfl (Nat.le_of_ble_eq_true rfl) dX11_ranks_15 ⟨Nat.zero_le _, Nat.zero_le _⟩) hW (fun g_15 H locs hp_15 hW => ?_)
      obtain ⟨⟨N_15, hN, hT, ho_15⟩, hf_15⟩ := hp_15
      have hfr : ∀ j, j ≠ i + 1 → g_15 j = g j := fun j hj => (hf_15 j hj).trans (hfr j hj)
      have hO : g_15 i = .inr (11, [.ref (A (i + 1)), .ref (A (i + 2)), .ref (A (i + 3)), .ref (A (i + 4)), .int (iI (q 0)), .ref (A (i + 5)), .ref (A (i + 6)), .ref (A (i + 7)), .ref (A (i + 8)), .int (iI (q 1)), .ref (A (i + 9)), .ref (A (i + 10)), .ref (A (i + 11)), .int (iI (q 2)), .ref (A (i + 12)), .ref (A (i + 13)), .int (iI (q 3)), .ref (A (i + 14)), .ref (A (i + 15)), .ref (A (i + 16)), .int (iI (q 4))]) := by rw [hf_15 _ (by omega)]; exact hO
      refine lv_aload_n X.1 X.2.1 dX11_ranks_18 rfl (lv_at hl 0 rfl) ?_
      refine x_bipush X (by decide) dX11_ranks_19 ?_
      refine x_lconst X 1 (by decide) dX11_ranks_21 ?_
      refine x_cv (x_runV (k := 2) (As := [.int (iI (40)), .long (lI (1))]) (rest := []) X hW (c_X11_set l E A n _ g_15 i (40) q N_15 (1) hi hO (by omega) hN (by decide) (by decide)) (by omega) hO rfl gX11_ranks_X11_set rfl rfl rfl (by decide +kernel) ⟨by decide, by decide⟩ rfl hl.1 rfl (Nat.le_of_ble_eq_true rfl) dX11_ranks_22 ⟨Nat.zero_le _, Nat.zero_le _⟩) hW (fun g_22 H locs hp_22 hW => ?_)
      obtain ⟨hN, hf_22⟩ := hp_22
      obtain ⟨N_22, hN_22⟩ : ∃ N9 : Nat → Int, N9 = va_up N_15 40 (1) := ⟨_, rfl⟩
      rw [← hN_22] at hN
      have hO : g_22 i = .inr (11, [.ref (A (i + 1)), .ref (A (i + 2)), .ref (A (i + 3)), .ref (A (i + 4)), .int (iI (q 0)), .ref (A (i + 5)), .ref (A (i + 6)), .ref (A (i + 7)), .ref (A (i + 8)), .int (iI (q 1)), .ref (A (i + 9)), .ref (A (i + 10)), .ref (A (i + 11)), .int (iI (q 2)), .ref (A (i + 12)), .ref (A (i + 13)), .int (iI (q 3)), .ref (A (i + 14)), .ref (A (i + 15)), .ref (A (i + 16)), .int (iI (q 4))]) := by rw [hf_22 _ (by omega)]; exact hO
      have v_40 : N_22 40 = 1 := by rw [hN_22, va_up_self]
      have hfr : ∀ j, j ≠ i + 1 → g_22 j = g j := fun j hj => (hf_22 j hj).trans (hfr j hj)
      refine x_iconst X dX11_ranks_25 ?_
      refine x_seti (((1 + 1 : Nat) : Int)) rfl ?_
      refine lv_istore_n (lv' := [(2, .int (iI (((1 + 1 : Nat) : Int)))), (0, .ref (A (i))), (1, .int (iI (z)))]) X.1 X.2.1 dX11_ranks_26 rfl hl (by decide) rfl (fun ls hl => ?_)
      have loop_27 : ∀ (fuel : Nat) (e : Nat) (N1 : Nat → Int) (g1 : Nat → va_E) (H : Heap) (locs : List Loc) (ls : Array Slot), (nn - e) < fuel → (1 ≤ e) → (e ≤ nn) → (MN E A g1 i N1) → (N1 10 = ((ft nn * rkN py nn nn : Nat) : Int)) → (N1 40 = ((ft e * ft e : Nat) : Int)) → (∀ j, j ≠ i + 1 → g1 j = g j) → wH E (wF A n sz) A n s_ g1 H locs → lv_has ls 3 [(0, .ref (A (i))), (1, .int (iI (z))), (2, .int (iI (((e + 1 : Nat) : Int))))] → W p_ l e_ ({ frames := 7, cells := 0, slots := 0, locals := 260 } : Room) s_ m_ [.ref (A (i)), .int (iI (z))].toArray below meth c_ H locs 0 0 (MQ below (va_Qi (fun r g' => r = iI (if 1 ≤ z ∧ z ≤ 20 then 1 else 0) ∧ (1 ≤ z ∧ z ≤ 20 → MR E A g' i (rdT ((ft z.toNat * rkN py z.toNat z.toNat : Nat) : Int) (ft z.toNat * ft z.toNat)) (rdB ((ft z.toNat * rkN py z.toNat z.toNat : Nat) : Int) (ft z.toNat * ft z.toNat))) ∧ (¬ (1 ≤ z ∧ z ≤ 20) → g' = g) ∧ ∀ j, j ≠ i + 1 → g' j = g j) (wAt E A n) (wF A n sz)) [.ref (A (i)), .int (iI (z))].toArray s_ 0 0 (wF A n sz)) (F0 m_ 27 ls []) := by
        intro fuel
        induction fuel with
        | zero => intro e N1 g1 H locs ls hm; exact absurd hm (Nat.not_lt_zero _)
        | succ fuel ih_27 =>
          intro e N1 g1 H locs ls hm he he2 hN v_10 v_40 hfr hW hl
          have hO : g1 i = .inr (11, [.ref (A (i + 1)), .ref (A (i + 2)), .ref (A (i + 3)), .ref (A (i + 4)), .int (iI (q 0)), .ref (A (i + 5)), .ref (A (i + 6)), .ref (A (i + 7)), .ref (A (i + 8)), .int (iI (q 1)), .ref (A (i + 9)), .ref (A (i + 10)), .ref (A (i + 11)), .int (iI (q 2)), .ref (A (i + 12)), .ref (A (i + 13)), .int (iI (q 3)), .ref (A (i + 14)), .ref (A (i + 15)), .ref (A (i + 16)), .int (iI (q 4))]) := (hfr _ (by omega)).trans hOg
          refine lv_iload_n X.1 X.2.1 dX11_ranks_27 rfl (lv_at hl 2 rfl) ?_
          refine lv_iload_n X.1 X.2.1 dX11_ranks_28 rfl (lv_at hl 1 rfl) ?_
          refine x_icmp_gt (tgt := 54) X ⟨by omega, by omega⟩ hz dX11_ranks_29 (by decide) (fun b_29 => ?_) (fun b_29 => ?_)
          · rw [show e = nn from by omega] at v_40
            refine lv_aload_n X.1 X.2.1 dX11_ranks_54 rfl (lv_at hl 0 rfl) ?_
            refine x_bipush X (by decide) dX11_ranks_55 ?_
            refine x_bipush X (by decide) dX11_ranks_57 ?_
            refine x_cv (x_runV (k := 2) (As := [.int (iI (10)), .int (iI (40))]) (rest := []) X hW (c_X11_result l E A n _ g1 i (10) (40) q N1 (((ft nn * rkN py nn nn : Nat) : Int)) (ft nn * ft nn) hi hO (by omega) (by omega) (by omega) (by omega) hN v_10 v_40 (Nat.mul_pos hfp hfp) (by omega) (by omega) (by omega)) (by omega) hO rfl gX11_ranks_X11_result rfl rfl rfl (by decide +kernel) ⟨by decide, by decide⟩ rfl hl.1 rfl (Nat.le_of_ble_eq_true rfl) dX11_ranks_59 ⟨Nat.zero_le _, Nat.zero_le _⟩) hW (fun g_59 H locs hp_59 hW => ?_)
            obtain ⟨⟨N_59, hN, v_0, v_1, ho8_59⟩, hf_59⟩ := hp_59
            have hfr : ∀ j, j ≠ i + 1 → g_59 j = g j := fun j hj => (hf_59 j hj).trans (hfr j hj)
            have hO : g_59 i = .inr (11, [.ref (A (i + 1)), .ref (A (i + 2)), .ref (A (i + 3)), .ref (A (i + 4)), .int (iI (q 0)), .ref (A (i + 5)), .ref (A (i + 6)), .ref (A (i + 7)), .ref (A (i + 8)), .int (iI (q 1)), .ref (A (i + 9)), .ref (A (i + 10)), .ref (A (i + 11)), .int (iI (q 2)), .ref (A (i + 12)), .ref (A (i + 13)), .int (iI (q 3)), .ref (A (i + 14)), .ref (A (i + 15)), .ref (A (i + 16)), .int (iI (q 4))]) := by rw [hf_59 _ (by omega)]; exact hO
            refine x_iconst X dX11_ranks_62 ?_
            exact x_zret X hr hlk (by decide) hW (⟨by rw [if_pos (by omega)], fun _ => by rw [← hnn]; exact ⟨_, hN, v_0, v_1⟩, fun h => absurd (show 1 ≤ z ∧ z ≤ 20 by omega) h, hfr⟩) dX11_ranks_63
          · have hfe : ft e * ft e * (e + 1) * (e + 1) = ft (e + 1) * ft (e + 1) := by
              show _ = ft e * (e + 1) * (ft e * (e + 1))
              rw [Nat.mul_assoc (ft e) (ft e), Nat.mul_comm (ft e) (e + 1), ← Nat.mul_assoc (ft e), Nat.mul_assoc, Nat.mul_comm (e + 1) (ft e)]
            have hf2 : ft (e + 1) * ft (e + 1) ≤ 20 ^ 20 * 20 ^ 20 := Nat.mul_le_mul (ft_cap (by omega)) (ft_cap (by omega))
            have hf1 : ft e * ft e * (e + 1) ≤ 20 ^ 20 * 20 ^ 20 * 20 := Nat.mul_le_mul (Nat.mul_le_mul (ft_cap (by omega)) (ft_cap (by omega))) (by omega)
            refine lv_aload_n X.1 X.2.1 dX11_ranks_32 rfl (lv_at hl 0 rfl) ?_
            refine x_bipush X (by decide) dX11_ranks_33 ?_
            refine lv_iload_n X.1 X.2.1 dX11_ranks_35 rfl (lv_at hl 2 rfl) ?_
            refine x_i2l X ⟨by omega, by omega⟩ dX11_ranks_36 ?_
            refine x_cv (x_runV (k := 2) (As := [.int (iI (40)), .long (lI (((e + 1 : Nat) : Int)))]) (rest := []) X hW (c_X11_times l E A n _ g1 i (40) q N1 (((e + 1 : Nat) : Int)) hi hO (by omega) hN (by omega) (by omega) (by rw [v_40, ← Int.natCast_mul]; omega) (by rw [v_40, ← Int.natCast_mul]; omega)) (by omega) hO rfl gX11_ranks_X11_times rfl rfl rfl (by decide +kernel) ⟨by decide, by decide⟩ rfl hl.1 rfl (Nat.le_of_ble_eq_true rfl) dX11_ranks_37 ⟨Nat.zero_le _, Nat.zero_le _⟩) hW (fun g_37 H locs hp_37 hW => ?_)
            obtain ⟨hN, hf_37⟩ := hp_37
            obtain ⟨N_37, hN_37⟩ : ∃ N9 : Nat → Int, N9 = va_up N1 40 (N1 40 * (((e + 1 : Nat) : Int))) := ⟨_, rfl⟩
            rw [← hN_37] at hN
            have hO : g_37 i = .inr (11, [.ref (A (i + 1)), .ref (A (i + 2)), .ref (A (i + 3)), .ref (A (i + 4)), .int (iI (q 0)), .ref (A (i + 5)), .ref (A (i + 6)), .ref (A (i + 7)), .ref (A (i + 8)), .int (iI (q 1)), .ref (A (i + 9)), .ref (A (i + 10)), .ref (A (i + 11)), .int (iI (q 2)), .ref (A (i + 12)), .ref (A (i + 13)), .int (iI (q 3)), .ref (A (i + 14)), .ref (A (i + 15)), .ref (A (i + 16)), .int (iI (q 4))]) := by rw [hf_37 _ (by omega)]; exact hO
            have v_40 : N_37 40 = ((ft e * ft e * (e + 1) : Nat) : Int) := by rw [hN_37, va_up_self, v_40, ← Int.natCast_mul]
            have v_10 : N_37 10 = ((ft nn * rkN py nn nn : Nat) : Int) := by rw [hN_37, va_up_ne _ _ (by omega)]; exact v_10
            have hfr : ∀ j, j ≠ i + 1 → g_37 j = g j := fun j hj => (hf_37 j hj).trans (hfr j hj)
            refine lv_aload_n X.1 X.2.1 dX11_ranks_40 rfl (lv_at hl 0 rfl) ?_
            refine x_bipush X (by decide) dX11_ranks_41 ?_
            refine lv_iload_n X.1 X.2.1 dX11_ranks_43 rfl (lv_at hl 2 rfl) ?_
            refine x_i2l X ⟨by omega, by omega⟩ dX11_ranks_44 ?_
            refine x_cv (x_runV (k := 2) (As := [.int (iI (40)), .long (lI (((e + 1 : Nat) : Int)))]) (rest := []) X hW (c_X11_times l E A n _ g_37 i (40) q N_37 (((e + 1 : Nat) : Int)) hi hO (by omega) hN (by omega) (by omega) (by rw [v_40, ← Int.natCast_mul, hfe]; omega) (by rw [v_40, ← Int.natCast_mul, hfe]; omega)) (by omega) hO rfl gX11_ranks_X11_times rfl rfl rfl (by decide +kernel) ⟨by decide, by decide⟩ rfl hl.1 rfl (Nat.le_of_ble_eq_true rfl) dX11_ranks_45 ⟨Nat.zero_le _, Nat.zero_le _⟩) hW (fun g_45 H locs hp_45 hW => ?_)
            obtain ⟨hN, hf_45⟩ := hp_45
            obtain ⟨N_45, hN_45⟩ : ∃ N9 : Nat → Int, N9 = va_up N_37 40 (N_37 40 * (((e + 1 : Nat) : Int))) := ⟨_, rfl⟩
            rw [← hN_45] at hN
            have hO : g_45 i = .inr (11, [.ref (A (i + 1)), .ref (A (i + 2)), .ref (A (i + 3)), .ref (A (i + 4)), .int (iI (q 0)), .ref (A (i + 5)), .ref (A (i + 6)), .ref (A (i + 7)), .ref (A (i + 8)), .int (iI (q 1)), .ref (A (i + 9)), .ref (A (i + 10)), .ref (A (i + 11)), .int (iI (q 2)), .ref (A (i + 12)), .ref (A (i + 13)), .int (iI (q 3)), .ref (A (i + 14)), .ref (A (i + 15)), .ref (A (i + 16)), .int (iI (q 4))]) := by rw [hf_45 _ (by omega)]; exact hO
            have v_40 : N_45 40 = ((ft (e + 1) * ft (e + 1) : Nat) : Int) := by rw [hN_45, va_up_self, v_40, ← Int.natCast_mul, hfe]
            have v_10 : N_45 10 = ((ft nn * rkN py nn nn : Nat) : Int) := by rw [hN_45, va_up_ne _ _ (by omega)]; exact v_10
            have hfr : ∀ j, j ≠ i + 1 → g_45 j = g j := fun j hj => (hf_45 j hj).trans (hfr j hj)
            refine lv_iinc (v := iI (((e + 1 + 1 : Nat) : Int))) (lv' := [(2, .int (iI (((e + 1 + 1 : Nat) : Int)))), (0, .ref (A (i))), (1, .int (iI (z)))]) X.1 X.2.1 dX11_ranks_48 hl (k := 2) rfl (by rw [show (Int32.ofInt (1)) = iI (1) from rfl, iI_add]; rfl) (by decide) rfl (fun ls hl => ?_)
            refine lv_goto (tgt := 27) X.1 X.2.1 dX11_ranks_51 (by decide) ?_
            exact ih_27 (e + 1) N_45 g_45 _ _ _ (by omega) (by omega) (by omega) hN v_10 v_40 hfr hW (lv_sub hl [1, 2, 0] rfl)
      exact loop_27 _ 1 N_22 g_22 _ _ _ (Nat.lt_succ_self _) (Nat.le_refl _) (by omega) hN (by rw [hN_22, va_up_ne _ _ (by omega), ← hT nn (by omega) (Nat.le_refl _), Nat.sub_self]) v_40 hfr hW (lv_sub hl [1, 2, 0] rfl)
    · refine x_iconst X dX11_ranks_11 ?_
      exact x_zret X hr hlk (by decide) hW (⟨by rw [if_neg (by omega)], fun h => absurd h (by omega), fun _ => rfl, fun _ _ => rfl⟩) dX11_ranks_12

set_option maxHeartbeats 4000000 in
set_option maxRecDepth 100000 in
/-- yes -/
theorem c_X11_yes (l : Launch) (E : wE) (A : Nat → Nat) (n sz : Nat) (g : Nat → va_E) (i : Nat) (q : Nat → Int) (N : Nat → Int) (py : Nat → Nat) (z y w : Int) (hi : i + 16 < n) (hO : g i = mO A i q) (hN : MN E A g i N) (hP : PayM E A g i py) (hz : I32 z) (hy : I32 y) (hw : I32 w) : Met l yX11_yes wsX11_yes ({ frames := 7, cells := 0, slots := 0, locals := 260 } : Room) (va_Pc [.ref (A (i)), .int (iI (z)), .int (iI (y)), .int (iI (w))] (wPre E A n sz g)) (va_Qi (fun r g' => r = iI (if (1 ≤ z ∧ z ≤ 20) ∧ (1 ≤ y ∧ y ≤ z) ∧ 1 ≤ w ∧ w ≤ y then (if y.toNat = z.toNat then 1 else if rkN py z.toNat (z.toNat - y.toNat) ≤ rkY py z.toNat (z.toNat - y.toNat) w.toNat then 1 else 0) else -1) ∧ (∃ N' : Nat → Int, MN E A g' i N' ∧ ∀ x, x < 2 → N' x = N x) ∧ ∀ j, j ≠ i + 1 → g' j = g j) (wAt E A n) (wF A n sz)) 0 0 (wF A n sz) := by
  refine x_met (cc := cX11_yes) (maxL := 4) (ret := (some .int)) [.ref (A (i)), .int (iI (z)), .int (iI (y)), .int (iI (w))] (by decide) rfl (Nat.le_of_ble_eq_true rfl) ?_
  intro p_ e_ s_ m_ below meth c_ ls X hr hlk hnm hsz hW hl
  have hl : lv_has ls 4 [(0, .ref (A (i))), (1, .int (iI (z))), (2, .int (iI (y))), (3, .int (iI (w)))] := hl
  have hO : g i = .inr (11, [.ref (A (i + 1)), .ref (A (i + 2)), .ref (A (i + 3)), .ref (A (i + 4)), .int (iI (q 0)), .ref (A (i + 5)), .ref (A (i + 6)), .ref (A (i + 7)), .ref (A (i + 8)), .int (iI (q 1)), .ref (A (i + 9)), .ref (A (i + 10)), .ref (A (i + 11)), .int (iI (q 2)), .ref (A (i + 12)), .ref (A (i + 13)), .int (iI (q 3)), .ref (A (i + 14)), .ref (A (i + 15)), .ref (A (i + 16)), .int (iI (q 4))]) := hO
  have hOg := hO
  have hfr : ∀ j, j ≠ i + 1 → g j = g j := fun _ _ => rfl
  have hoth : ∀ x, x < 2 → N x = N x := fun _ _ => rfl
  obtain ⟨fp, h11, hpv⟩ := id hP
  have hz1 := hz.1
  have hz2 := hz.2
  have hy1 := hy.1
  have hy2 := hy.2
  have hw1 := hw.1
  have hw2 := hw.2
  refine lv_iload_n X.1 X.2.1 dX11_yes_0 rfl (lv_at hl 1 rfl) ?_
  refine x_iconst X dX11_yes_1 ?_
  refine x_icmp_lt (tgt := 31) X hz ⟨by decide, by decide⟩ dX11_yes_2 (by decide) (fun b_2 => ?_) (fun b_2 => ?_)
  · refine x_iconst X dX11_yes_31 ?_
    exact x_iret X hr hlk hW (⟨by rw [if_neg (by omega)], ⟨N, hN, hoth⟩, hfr⟩) dX11_yes_32
  · refine lv_iload_n X.1 X.2.1 dX11_yes_5 rfl (lv_at hl 1 rfl) ?_
    refine x_bipush X (by decide) dX11_yes_6 ?_
    refine x_icmp_gt (tgt := 31) X hz ⟨by decide, by decide⟩ dX11_yes_8 (by decide) (fun b_8 => ?_) (fun b_8 => ?_)
    · refine x_iconst X dX11_yes_31 ?_
      exact x_iret X hr hlk hW (⟨by rw [if_neg (by omega)], ⟨N, hN, hoth⟩, hfr⟩) dX11_yes_32
    · refine lv_iload_n X.1 X.2.1 dX11_yes_11 rfl (lv_at hl 2 rfl) ?_
      refine x_iconst X dX11_yes_12 ?_
      refine x_icmp_lt (tgt := 31) X hy ⟨by decide, by decide⟩ dX11_yes_13 (by decide) (fun b_13 => ?_) (fun b_13 => ?_)
      · refine x_iconst X dX11_yes_31 ?_
        exact x_iret X hr hlk hW (⟨by rw [if_neg (by omega)], ⟨N, hN, hoth⟩, hfr⟩) dX11_yes_32
      · refine lv_iload_n X.1 X.2.1 dX11_yes_16 rfl (lv_at hl 2 rfl) ?_
        refine lv_iload_n X.1 X.2.1 dX11_yes_17 rfl (lv_at hl 1 rfl) ?_
        refine x_icmp_gt (tgt := 31) X hy hz dX11_yes_18 (by decide) (fun b_18 => ?_) (fun b_18 => ?_)
        · refine x_iconst X dX11_yes_31 ?_
          exact x_iret X hr hlk hW (⟨by rw [if_neg (by omega)], ⟨N, hN, hoth⟩, hfr⟩) dX11_yes_32
        · refine lv_iload_n X.1 X.2.1 dX11_yes_21 rfl (lv_at hl 3 rfl) ?_
          refine x_iconst X dX11_yes_22 ?_
          refine x_icmp_lt (tgt := 31) X hw ⟨by decide, by decide⟩ dX11_yes_23 (by decide) (fun b_23 => ?_) (fun b_23 => ?_)
          · refine x_iconst X dX11_yes_31 ?_
            exact x_iret X hr hlk hW (⟨by rw [if_neg (by omega)], ⟨N, hN, hoth⟩, hfr⟩) dX11_yes_32
          · refine lv_iload_n X.1 X.2.1 dX11_yes_26 rfl (lv_at hl 3 rfl) ?_
            refine lv_iload_n X.1 X.2.1 dX11_yes_27 rfl (lv_at hl 2 rfl) ?_
            refine x_icmp_le (tgt := 33) X hw hy dX11_yes_28 (by decide) (fun b_28 => ?_) (fun b_28 => ?_)
            · obtain ⟨nn, hnn⟩ : ∃ nn, nn = z.toNat := ⟨_, rfl⟩
              obtain ⟨jj, hjj⟩ : ∃ jj, jj = y.toNat := ⟨_, rfl⟩
              obtain ⟨ss, hss⟩ : ∃ ss, ss = w.toNat := ⟨_, rfl⟩
              have hzn : z = (nn : Int) := by omega
              have hyj : y = (jj : Int) := by omega
              have hws : w = (ss : Int) := by omega
              have hval : (1 ≤ z ∧ z ≤ 20) ∧ (1 ≤ y ∧ y ≤ z) ∧ 1 ≤ w ∧ w ≤ y := by omega
              have hfp := ft_pos nn
              refine lv_iload_n X.1 X.2.1 dX11_yes_33 rfl (lv_at hl 2 rfl) ?_
              refine lv_iload_n X.1 X.2.1 dX11_yes_34 rfl (lv_at hl 1 rfl) ?_
              refine x_icmp_ne (tgt := 40) X hy hz dX11_yes_35 (by decide) (fun b_35 => ?_) (fun b_35 => ?_)
              · refine lv_aload_n X.1 X.2.1 dX11_yes_40 rfl (lv_at hl 0 rfl) ?_
                refine lv_iload_n X.1 X.2.1 dX11_yes_41 rfl (lv_at hl 1 rfl) ?_
                refine x_seti ((nn : Int)) hzn ?_
                refine x_cv (x_runV (k := 1) (As := [.int (iI ((nn : Int)))]) (rest := []) X hW (c_X11_goesOn l E A n _ g i q N py nn hi hO hN (hP.frame (hfr _ (by omega))) (by omega) (by omega)) (by omega) hO rfl gX11_yes_X11_goesOn rfl rfl rfl (by decide +kernel) ⟨by decide, by decide⟩ rfl hl.1 rfl (Nat.le_of_ble_eq_true rfl) dX11_yes_42 ⟨Nat.zero_le _, Nat.zero_le _⟩) hW (fun g_42 H locs hp_42 hW => ?_)
                obtain ⟨⟨N_42, hN, hT, ho_42⟩, hf_42⟩ := hp_42
                have hfr : ∀ j, j ≠ i + 1 → g_42 j = g j := fun j hj => (hf_42 j hj).trans (hfr j hj)
                have hoth : ∀ x, x < 2 → N_42 x = N x := fun x hx => (ho_42 x (by omega)).trans (hoth x hx)
                have hO : g_42 i = .inr (11, [.ref (A (i + 1)), .ref (A (i + 2)), .ref (A (i + 3)), .ref (A (i + 4)), .int (iI (q 0)), .ref (A (i + 5)), .ref (A (i + 6)), .ref (A (i + 7)), .ref (A (i + 8)), .int (iI (q 1)), .ref (A (i + 9)), .ref (A (i + 10)), .ref (A (i + 11)), .int (iI (q 2)), .ref (A (i + 12)), .ref (A (i + 13)), .int (iI (q 3)), .ref (A (i + 14)), .ref (A (i + 15)), .ref (A (i + 16)), .int (iI (q 4))]) := by rw [hf_42 _ (by omega)]; exact hO
                have v_10___jj : N_42 (10 + jj) = ((ft nn * rkN py nn (nn - jj) : Nat) : Int) := by rw [← hT (nn - jj) (by omega) (by omega), show nn - (nn - jj) = jj from by omega]
                refine lv_aload_n X.1 X.2.1 dX11_yes_45 rfl (lv_at hl 0 rfl) ?_
                refine lv_iload_n X.1 X.2.1 dX11_yes_46 rfl (lv_at hl 1 rfl) ?_
                refine x_seti ((nn : Int)) hzn ?_
                refine lv_iload_n X.1 X.2.1 dX11_yes_47 rfl (lv_at hl 2 rfl) ?_
                refine x_seti ((jj : Int)) hyj ?_
                refine lv_iload_n X.1 X.2.1 dX11_yes_48 rfl (lv_at hl 3 rfl) ?_
                refine x_seti ((ss : Int)) hws ?_
                refine x_cv (x_runV (k := 3) (As := [.int (iI ((nn : Int))), .int (iI ((jj : Int))), .int (iI ((ss : Int)))]) (rest := []) X hW (c_X11_yesOf l E A n _ g_42 i q N_42 py nn (jj) (ss) hi hO hN (hP.frame (hfr _ (by omega))) (by omega) (by omega) (by omega) (by omega)) (by omega) hO rfl gX11_yes_X11_yesOf rfl rfl rfl (by decide +kernel) ⟨by decide, by decide⟩ rfl hl.1 rfl (Nat.le_of_ble_eq_true rfl) dX11_yes_49 ⟨Nat.zero_le _, Nat.zero_le _⟩) hW (fun g_49 H locs hp_49 hW => ?_)
                obtain ⟨⟨N_49, hN, v_2, ho_49⟩, hf_49⟩ := hp_49
                have hfr : ∀ j, j ≠ i + 1 → g_49 j = g j := fun j hj => (hf_49 j hj).trans (hfr j hj)
                have hoth : ∀ x, x < 2 → N_49 x = N x := fun x hx => (ho_49 x (by omega)).trans (hoth x hx)
                rw [show nn - (jj) = nn - jj from by omega] at v_2
                have hO : g_49 i = .inr (11, [.ref (A (i + 1)), .ref (A (i + 2)), .ref (A (i + 3)), .ref (A (i + 4)), .int (iI (q 0)), .ref (A (i + 5)), .ref (A (i + 6)), .ref (A (i + 7)), .ref (A (i + 8)), .int (iI (q 1)), .ref (A (i + 9)), .ref (A (i + 10)), .ref (A (i + 11)), .int (iI (q 2)), .ref (A (i + 12)), .ref (A (i + 13)), .int (iI (q 3)), .ref (A (i + 14)), .ref (A (i + 15)), .ref (A (i + 16)), .int (iI (q 4))]) := by rw [hf_49 _ (by omega)]; exact hO
                have v_10___jj := (ho_49 (10 + jj) (by omega)).trans v_10___jj
                refine lv_aload_n X.1 X.2.1 dX11_yes_52 rfl (lv_at hl 0 rfl) ?_
                refine x_iconst X dX11_yes_53 ?_
                refine x_bipush X (by decide) dX11_yes_54 ?_
                refine lv_iload_n X.1 X.2.1 dX11_yes_56 rfl (lv_at hl 2 rfl) ?_
                refine x_iadd X dX11_yes_57 ?_
                refine x_seti (((10 + jj : Nat) : Int)) (by omega) ?_
                refine x_ci (x_runV (k := 2) (As := [.int (iI (2)), .int (iI (((10 + jj : Nat) : Int)))]) (rest := []) X hW (c_X11_compared l E A n _ g_49 i (2) (10 + jj) q N_49 hi hO (by omega) (by omega) hN) (by omega) hO rfl gX11_yes_X11_compared rfl rfl rfl (by decide +kernel) ⟨by decide, by decide⟩ rfl hl.1 rfl (Nat.le_of_ble_eq_true rfl) dX11_yes_58 ⟨Nat.zero_le _, Nat.zero_le _⟩) hW (fun r_58 g_58 H locs hp_58 hW => ?_)
                obtain ⟨hr_58, he_58⟩ := hp_58
                rw [he_58] at hW
                rw [v_2, v_10___jj] at hr_58
                subst hr_58
                refine x_if_lt (tgt := 68) X (cmp_rng _ _) dX11_yes_61 (by decide) (fun b_61 => ?_) (fun b_61 => ?_)
                · have hno : ¬ rkN py nn (nn - jj) ≤ rkY py nn (nn - jj) ss := fun h9 => absurd (cmp_lt b_61) (Nat.not_lt.mpr (Nat.mul_le_mul_left _ h9))
                  refine x_iconst X dX11_yes_68 ?_
                  exact x_iret X hr hlk hW (⟨by rw [if_pos hval, ← hnn, ← hjj, ← hss, if_neg (by omega), if_neg hno], ⟨N_49, hN, hoth⟩, hfr⟩) dX11_yes_69
                · have hys : rkN py nn (nn - jj) ≤ rkY py nn (nn - jj) ss := Nat.le_of_mul_le_mul_left (cmp_ge b_61) hfp
                  refine x_iconst X dX11_yes_64 ?_
                  refine lv_goto (tgt := 69) X.1 X.2.1 dX11_yes_65 (by decide) ?_
                  exact x_iret X hr hlk hW (⟨by rw [if_pos hval, ← hnn, ← hjj, ← hss, if_neg (by omega), if_pos hys], ⟨N_49, hN, hoth⟩, hfr⟩) dX11_yes_69
              · refine x_iconst X dX11_yes_38 ?_
                exact x_iret X hr hlk hW (⟨by rw [if_pos hval, ← hnn, ← hjj, if_pos (by omega)], ⟨N, hN, hoth⟩, hfr⟩) dX11_yes_39
            · refine x_iconst X dX11_yes_31 ?_
              exact x_iret X hr hlk hW (⟨by rw [if_neg (by omega)], ⟨N, hN, hoth⟩, hfr⟩) dX11_yes_32
