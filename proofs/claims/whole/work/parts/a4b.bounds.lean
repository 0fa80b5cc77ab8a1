/-! ===== the law: what the reference's view says of the numbers; bounds of every result ===== -/
theorem LM_facts {E : wE} {A : Nat → Nat} {g : Nat → va_E} {i : Nat} {rw : Nat → Int} {rl : Nat → Int} {nm : Nat → Nat → Int} {bk : Nat} {L : Nat → List (Nat × Nat)} {cz : Nat} {co : Nat → Nat} {br : Nat → Nat} {py : Nat → Nat} {hz : Nat} {ta : Nat → Nat} {tb : Nat → Nat} {xz : Nat} {bx : Nat → Nat} {px : Nat → Nat} {P : Nat → Int} {Q : Nat → Nat} {od : Nat → Nat} {tz : Int} {bz : Nat} (h : LM E A g i rw rl nm bk L cz co br py hz ta tb xz bx px P Q od tz bz) : (bk ≤ 16 ∧ ∀ b, b < bk → bOK (L b) ∧ 0 < bE (L b) (fun _ => 1)) ∧ (cz ≤ 10 ∧ ∀ k, k < cz → co k < bk ∧ br k ≤ 1001) ∧ (xz ≤ 6 ∧ ∀ k, k < xz → bx k < bk ∧ px k ≤ 1000) ∧ (hz ≤ 20 ∧ ∀ k, k < hz → ta k ≤ tb k ∧ 1 ≤ tb k ∧ tb k ≤ 100) ∧ ∀ k, k < 21 → py k ≤ 1000 := by
  obtain ⟨q, m0, mq, mN, mR, ⟨f5, f6, f7, f8, b5, b6, b7, b8, hb, hbk⟩, ⟨f9, f10, a9, a10, hc, hck⟩, ⟨fy, ay, hpy⟩, ⟨fa, fb, aa, ab, hh, hhk⟩, ⟨fx, fp, ax, ap, hx, hxk⟩, m16⟩ := h
  refine ⟨⟨hb, fun b h => ⟨⟨(hbk b h).1, fun k hk => ⟨((hbk b h).2.2.2.2 k hk).2.2.1, ((hbk b h).2.2.2.2 k hk).2.2.2⟩⟩, (hbk b h).2.2.2.1⟩⟩, ⟨hc, fun k hk => ⟨(hck k hk).1, (hck k hk).2.1⟩⟩, ⟨hx, fun k hk => ⟨(hxk k hk).1, (hxk k hk).2.1⟩⟩, ⟨hh, fun k hk => (hhk k hk).1⟩, fun k hk => (hpy k hk).2⟩
theorem rd44 {p : Int} {q : Nat} (h1 : p.natAbs ≤ 10 ^ 44) (h2 : q ≤ 10 ^ 44) : (rdT p q).natAbs ≤ 10 ^ 44 ∧ rdB p q ≤ 10 ^ 44 := ⟨Nat.le_trans (rdT_abs_le p q) h1, Nat.le_trans (rdB_le p q) h2⟩
theorem cz44 {d v : Nat} (hd : d ≤ 10) (h : v ≤ d * 1000 * 8000 ^ d) : v ≤ 10 ^ 44 := Nat.le_trans h (Nat.le_trans (Nat.mul_le_mul (Nat.mul_le_mul_right 1000 hd) (Nat.pow_le_pow_right (by decide) hd)) (by decide))
theorem prT44 {Lk : Nat → List (Nat × Nat)} {cz : Nat} (hc : cz ≤ 10) (hok : ∀ k, k < cz → bOK (Lk k)) : prT Lk cz ≤ 8000 ^ 10 := Nat.le_trans (prT_le (fun k hk => bOK_tot (hok k hk)) cz (Nat.le_refl _)) (Nat.pow_le_pow_right (by decide) hc)
theorem p8044 {v : Nat} (h : v ≤ 8000 ^ 10) : v ≤ 10 ^ 44 := Nat.le_trans h (by decide)
theorem foM44 {Lk : Nat → List (Nat × Nat)} {br : Nat → Nat} {cz : Nat} (hc : cz ≤ 10) (hok : ∀ k, k < cz → bOK (Lk k)) : foM Lk br cz cz ≤ 10 ^ 44 := cz44 hc (foM_le (fun k hk => ⟨bOK_tot (hok k hk), bOK_below (hok k hk), bOK_gath (hok k hk)⟩) cz (Nat.le_refl _))
theorem chN44 {Lk : Nat → List (Nat × Nat)} {cz K y : Nat} (hc : cz ≤ 10) (hok : ∀ k, k < cz → bOK (Lk k)) : chN Lk cz K cz y ≤ 10 ^ 44 := cz44 hc (chN_cap hok cz (Nat.le_refl _) y)
theorem foS44 {Lk : Nat → List (Nat × Nat)} {cz : Nat} (hc : cz ≤ 10) (hok : ∀ k, k < cz → bOK (Lk k)) : foS Lk cz 1000 ≤ 10 ^ 44 := Nat.le_trans (foS_le Lk cz 1000) (Nat.le_trans (Nat.mul_le_mul_left 1000 (prT44 hc hok)) (by decide))
theorem hp44 {ta tb : Nat → Nat} {hz : Nat} (h : hz ≤ 20) (hk : ∀ k, k < hz → ta k ≤ tb k ∧ 1 ≤ tb k ∧ tb k ≤ 100) : hpM ta tb hz hz ≤ 10 ^ 44 ∧ pr tb hz ≤ 10 ^ 44 := by
  have h1 : (100 : Nat) ^ hz ≤ 100 ^ 20 := Nat.pow_le_pow_right (by decide) h
  have h2 : (100 : Nat) ^ 20 ≤ 10 ^ 44 := by decide
  exact ⟨Nat.le_trans (hp_cap hk hz (Nat.le_refl _)).2 (Nat.le_trans h1 h2), Nat.le_trans (pr_le hz (fun j hj => (hk j hj).2.2)) (Nat.le_trans h1 h2)⟩
theorem rk44 {py : Nat → Nat} {nn : Nat} (h : nn ≤ 20) (hp : ∀ k, k < 21 → py k ≤ 1000) : rkN py nn nn ≤ 10 ^ 44 ∧ pr (fun k => k + 2) (nn - 1) ≤ 10 ^ 44 := by
  refine ⟨Nat.le_trans (rk_cap h (fun s h1 h2 => hp s (by omega)) nn (Nat.le_refl _)).1 (Nat.le_trans (Nat.mul_le_mul_left 1000 (Nat.pow_le_pow_right (by decide) h)) (by decide)), ?_⟩
  have h1 : pr (fun k => k + 2) (nn - 1) ≤ 21 ^ (nn - 1) := pr_le (nn - 1) (fun j hj => by omega)
  have h2 : (21 : Nat) ^ (nn - 1) ≤ 21 ^ 20 := Nat.pow_le_pow_right (by decide) (by omega)
  have h3 : (21 : Nat) ^ 20 ≤ 10 ^ 44 := by decide
  exact Nat.le_trans h1 (Nat.le_trans h2 h3)
theorem lt44 {nn r : Nat} (h : nn ≤ 60) (hr : r < nn) : ltV (mlc (nn - 2)) nn r ≤ 10 ^ 44 ∧ mlc (nn - 2) * nn ≤ 10 ^ 44 := by
  have h1 := (mlc_cap (t := nn - 2) (by omega)).1
  refine ⟨Nat.le_trans (ltV_le h (by omega)) (Nat.le_trans (Nat.mul_le_mul_left 3600 h1) (by decide)), Nat.le_trans (Nat.mul_le_mul h1 h) (by decide)⟩
theorem fr44 {P : Int} {Q : Nat} (h : FairR P Q) : P.natAbs ≤ 10 ^ 44 ∧ Q ≤ 10 ^ 44 := by
  obtain ⟨h1, h2, h3, h4⟩ := h
  refine ⟨Nat.le_trans (m := 8000000) (by omega) (by decide), Nat.le_trans h4 (by decide)⟩
theorem i64_of (x : Int64) : ∃ z : Int, x = lI z ∧ I64 z := by
  refine ⟨x.toInt, ?_, ?_⟩
  · exact (Int64.ofInt_toInt x).symm
  · have h1 := Int64.le_toInt x
    have h2 := Int64.toInt_lt x
    unfold I64
    omega
theorem inr1L : ∀ w ∈ wsL_law_r1, w ∈ wsL_law := fun _ h => List.mem_append_left _ (List.mem_append_left _ (List.mem_append_left _ (List.mem_append_left _ (List.mem_append_left _ (List.mem_append_left _ (List.mem_append_left _ (List.mem_append_left _ (List.mem_append_left _ (List.mem_append_left _ (List.mem_append_left _ (List.mem_append_left _ (List.mem_append_left _ (List.mem_append_left _ h)))))))))))))
theorem HF_one {Lk : Nat → List (Nat × Nat)} {cz b1 : Nat} {r1 r2 : Int32} (h1 : b1 ≤ 1001) (e1 : r1 = iI (b1 : Int)) (y1 : HF Lk cz b1) (w1 : ∀ c, c < b1 → ¬ HF Lk cz c) (h : HFR Lk cz r2) : r1 = r2 := by
  rcases h with ⟨b2, h2, e2, y2, w2⟩ | ⟨e2, y2⟩
  · have hb : b1 = b2 := by
      rcases Nat.lt_trichotomy b1 b2 with q | q | q
      · exact absurd y1 (w2 b1 q)
      · exact q
      · exact absurd y2 (w1 b2 q)
    rw [e1, e2, hb]
  · exact absurd y1 (y2 b1 h1)
