def ins {α : Type} (a : Nat → α) (p : Nat) (x : α) : Nat → α := fun j => if j < p then a j else if j = p then x else a (j - 1)
theorem ins_lt {α : Type} {a : Nat → α} {p : Nat} {x : α} {j : Nat} (h : j < p) : ins a p x j = a j := if_pos h
theorem ins_eq {α : Type} {a : Nat → α} {p : Nat} {x : α} : ins a p x p = x := by unfold ins; rw [if_neg (Nat.lt_irrefl p), if_pos rfl]
theorem ins_gt {α : Type} {a : Nat → α} {p : Nat} {x : α} {j : Nat} (h : p < j) : ins a p x j = a (j - 1) := by unfold ins; rw [if_neg (by omega), if_neg (by omega)]
theorem sm_ins (G : Nat → Nat) {p : Nat} (y : Nat) : ∀ b, p ≤ b → sm (ins G p y) (b + 1) = sm G b + y := by
  intro b
  induction b with
  | zero =>
    intro h
    obtain rfl : p = 0 := by omega
    show 0 + ins G 0 y 0 = 0 + y
    rw [ins_eq]
  | succ b ih =>
    intro h
    by_cases e : p = b + 1
    · show sm (ins G p y) (b + 1) + ins G p y (b + 1) = sm G (b + 1) + y
      rw [← e, ins_eq, sm_congr p (fun j hj => ins_lt (a := G) (x := y) hj)]
    · show sm (ins G p y) (b + 1) + ins G p y (b + 1) = (sm G b + G b) + y
      rw [ih (by omega), ins_gt (by omega), Nat.add_sub_cancel]; omega
theorem sm_upd (G : Nat → Nat) {p : Nat} (y : Nat) : ∀ b, p < b → sm (fun k => if k = p then G k + y else G k) b = sm G b + y := by
  intro b
  induction b with
  | zero => intro h; omega
  | succ b ih =>
    intro h
    show sm (fun k => if k = p then G k + y else G k) b + (if b = p then G b + y else G b) = (sm G b + G b) + y
    by_cases e : b = p
    · rw [if_pos e, sm_congr (h := G) b (fun j hj => if_neg (by omega))]; omega
    · rw [if_neg e, ih (by omega)]; omega
theorem BookP.zero {bz : Nat} {wo we : Nat → Nat} {tot : Nat} {L : List (Nat × Nat)} (h : BookP bz wo we tot L) (w : Nat) : BookP bz wo we tot (L ++ [(w, 0)]) := by
  obtain ⟨a, b, c, d, e⟩ := h
  exact ⟨a, b, fun f => by rw [c, bE_app, Nat.zero_mul, Nat.add_zero], by rw [bE_app, d, Nat.zero_mul, Nat.add_zero], e⟩
theorem BookP.more {bz : Nat} {wo we : Nat → Nat} {tot : Nat} {L : List (Nat × Nat)} (h : BookP bz wo we tot L) {p w wt : Nat} (hp : p < bz) (hw : wo p = w) (ht : tot + wt ≤ 8000) : BookP bz wo (fun k => if k = p then we k + wt else we k) (tot + wt) (L ++ [(w, wt)]) := by
  obtain ⟨a, b, c, d, e⟩ := h
  refine ⟨a, fun k hk => ⟨?_, (b k hk).2⟩, fun f => ?_, ?_, ht⟩
  · show 0 < if k = p then we k + wt else we k
    have := (b k hk).1; split <;> omega
  · rw [bE_app, ← c, ← hw, ← sm_upd (fun k => we k * f (wo k)) (wt * f (wo p)) bz hp]
    apply sm_congr
    intro j hj
    show (if j = p then we j + wt else we j) * f (wo j) = if j = p then we j * f (wo j) + wt * f (wo p) else we j * f (wo j)
    by_cases q : j = p
    · rw [if_pos q, if_pos q, Nat.add_mul, q]
    · rw [if_neg q, if_neg q]
  · rw [bE_app, d, Nat.mul_one]
theorem BookP.ins {bz : Nat} {wo we : Nat → Nat} {tot : Nat} {L : List (Nat × Nat)} (h : BookP bz wo we tot L) {p w wt : Nat} (hp : p ≤ bz) (hl : ∀ j, j < p → wo j < w) (hg : p < bz → w < wo p) (hw : w ≤ 1000) (hwt : 0 < wt) (ht : tot + wt ≤ 8000) : BookP (bz + 1) (ins wo p w) (ins we p wt) (tot + wt) (L ++ [(w, wt)]) := by
  obtain ⟨a, b, c, d, e⟩ := h
  refine ⟨fun x y hxy hy => ?_, fun k hk => ?_, fun f => ?_, ?_, ht⟩
  · rcases Nat.lt_trichotomy y p with q | q | q
    · rw [ins_lt (by omega), ins_lt q]; exact a x y hxy (by omega)
    · rw [q, ins_eq, ins_lt (by omega)]; exact hl x (by omega)
    · rw [ins_gt q]
      have hgp := hg (by omega)
      have hy1 : wo p ≤ wo (y - 1) := asc_le a (by omega) (by omega)
      rcases Nat.lt_trichotomy x p with r | r | r
      · rw [ins_lt r]; have := hl x r; omega
      · rw [r, ins_eq]; omega
      · rw [ins_gt r]; exact a (x - 1) (y - 1) (by omega) (by omega)
  · rcases Nat.lt_trichotomy k p with q | q | q
    · rw [ins_lt q, ins_lt q]; exact b k (by omega)
    · rw [q, ins_eq, ins_eq]; exact ⟨hwt, hw⟩
    · rw [ins_gt q, ins_gt q]; exact b (k - 1) (by omega)
  · rw [bE_app, ← c, ← sm_ins (fun k => we k * f (wo k)) (wt * f w) bz hp]
    apply sm_congr
    intro j hj
    rcases Nat.lt_trichotomy j p with q | q | q
    · rw [ins_lt q, ins_lt q, ins_lt q]
    · rw [q, ins_eq, ins_eq, ins_eq]
    · rw [ins_gt q, ins_gt q, ins_gt q]
  · rw [bE_app, d, Nat.mul_one]

