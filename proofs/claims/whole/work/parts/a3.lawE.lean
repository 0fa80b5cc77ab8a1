/-! ===== the law: what its start gives ===== -/
theorem lw_nest : ∀ q ∈ wNs, Cond.methodLinkNest q.1 q.2.1 q.2.2 RX10 ∈ lw_tbl := by decide +kernel
set_option maxHeartbeats 4000000 in
set_option maxRecDepth 100000 in
theorem law_E {p : Program} {s : State} {m : MethodId} {meth : Method} {c : Code} {b L : Nat} {xs : Nat → Int32} (C0 : lw_At p s m meth c b L xs) : ∃ E : wE, va_K E.1 vwCl (eT E) s ∧ wN s ∧ wO s ∧ wZ E.2.2 (fun q => s.heap.size ≤ q) s s.heap := by
  obtain ⟨hx, hb, hr, hml, hown, hts, hX, hbl, hlk, hgv⟩ := C0
  obtain ⟨c0, i0, k0⟩ := u_known (C := RX0) (T := TX0) (N := 4) (n := 4) hts inX0 (hts (.instantiable RX0 4) (by decide +kernel))
  obtain ⟨c1, i1, k1⟩ := u_known (C := RX1) (T := TX1) (N := 8) (n := 8) hts inX1 (hts (.instantiable RX1 8) (by decide +kernel))
  obtain ⟨c2, i2, k2⟩ := u_known (C := RX2) (T := TX2) (N := 10) (n := 10) hts inX2 (hts (.instantiable RX2 10) (by decide +kernel))
  obtain ⟨c3, i3, k3⟩ := u_known (C := RX3) (T := TX3) (N := 3) (n := 3) hts inX3 (hts (.instantiable RX3 3) (by decide +kernel))
  obtain ⟨c4, i4, k4⟩ := u_known (C := RX4) (T := TX4) (N := 6) (n := 6) hts inX4 (hts (.instantiable RX4 6) (by decide +kernel))
  obtain ⟨c5, i5, k5⟩ := u_known (C := RX5) (T := TX5) (N := 1) (n := 1) hts inX5 (hts (.instantiable RX5 1) (by decide +kernel))
  obtain ⟨c6, i6, k6⟩ := u_known (C := RX6) (T := TX6) (N := 5) (n := 5) hts inX6 (hts (.instantiable RX6 5) (by decide +kernel))
  obtain ⟨c7, i7, k7⟩ := u_known (C := RX7) (T := TX7) (N := 4) (n := 4) hts inX7 (hts (.instantiable RX7 4) (by decide +kernel))
  obtain ⟨c8, i8, k8⟩ := u_known (C := RX8) (T := TX8) (N := 5) (n := 5) hts inX8 (hts (.instantiable RX8 5) (by decide +kernel))
  obtain ⟨c9, i9, k9⟩ := u_known (C := RX9) (T := TX9) (N := 3) (n := 3) hts inX9 (hts (.instantiable RX9 3) (by decide +kernel))
  obtain ⟨c10, i10, k10⟩ := u_known (C := RX10) (T := TX10) (N := 9) (n := 9) hts inX10 (hts (.instantiable RX10 9) (by decide +kernel))
  obtain ⟨c11, i11, k11⟩ := u_known (C := RX11) (T := TX11) (N := 21) (n := 21) hts inX11 (hts (.instantiable RX11 21) (by decide +kernel))
  obtain ⟨dC, dI, hKc⟩ : ∃ (dC : Nat → ClassId) (dI : Nat → Nat → Nat), ∀ (k : Nat) (q : vw_C), vwCl[k]? = some q → u_Kn s q.1 q.2.1 q.2.2 (dC k) (dI k) := by
    refine ⟨fun k => if k = 0 then c0 else if k = 1 then c1 else if k = 2 then c2 else if k = 3 then c3 else if k = 4 then c4 else if k = 5 then c5 else if k = 6 then c6 else if k = 7 then c7 else if k = 8 then c8 else if k = 9 then c9 else if k = 10 then c10 else c11, fun k => if k = 0 then i0 else if k = 1 then i1 else if k = 2 then i2 else if k = 3 then i3 else if k = 4 then i4 else if k = 5 then i5 else if k = 6 then i6 else if k = 7 then i7 else if k = 8 then i8 else if k = 9 then i9 else if k = 10 then i10 else i11, ?_⟩
    intro k q hq
    match k, hq with
    | 0, hq => cases hq; exact k0
    | 1, hq => cases hq; exact k1
    | 2, hq => cases hq; exact k2
    | 3, hq => cases hq; exact k3
    | 4, hq => cases hq; exact k4
    | 5, hq => cases hq; exact k5
    | 6, hq => cases hq; exact k6
    | 7, hq => cases hq; exact k7
    | 8, hq => cases hq; exact k8
    | 9, hq => cases hq; exact k9
    | 10, hq => cases hq; exact k10
    | 11, hq => cases hq; exact k11
    | k + 12, hq => simp [vwCl] at hq
  obtain ⟨aIc, kkI, cpI, hI1, hI2, hI3⟩ := Cond.arrayClass_spec (hts (.arrayClass .int) (by decide +kernel))
  obtain ⟨aJc, kkJ, cpJ, hJ1, hJ2, hJ3⟩ := Cond.arrayClass_spec (hts (.arrayClass .long) (by decide +kernel))
  have ov0 := hts (.arrayOver (.object RX0)) (by decide +kernel)
  obtain ⟨cp0, a0, kk0, h01, h02, h03, h04, h05⟩ := Cond.arrayOver_spec ov0
  have ov5 := hts (.arrayOver (.object RX5)) (by decide +kernel)
  obtain ⟨cp5, a5, kk5, h51, h52, h53, h54, h55⟩ := Cond.arrayOver_spec ov5
  have ov9 := hts (.arrayOver (.object RX9)) (by decide +kernel)
  obtain ⟨cp9, a9, kk9, h91, h92, h93, h94, h95⟩ := Cond.arrayOver_spec ov9
  have hs := flat_of_before _ hgv
  obtain ⟨t, ht1, ht2⟩ := va_Tof (A := fun q => s.heap.size ≤ q) (N := 17) (tm := .static RX6 "PRIME_POWERS" "[I") (ty := .int) (f := fun j => .int (ppL.getD j 0)) (by decide) (hs (.arrayOf (.static RX6 "PRIME_POWERS" "[I") .int) (by decide +kernel)) (va_eqt (hs (.eq (.length (.static RX6 "PRIME_POWERS" "[I")) (.int 17)) (by decide +kernel))) (fun j hj => by
    rcases (show j = 0 ∨ j = 1 ∨ j = 2 ∨ j = 3 ∨ j = 4 ∨ j = 5 ∨ j = 6 ∨ j = 7 ∨ j = 8 ∨ j = 9 ∨ j = 10 ∨ j = 11 ∨ j = 12 ∨ j = 13 ∨ j = 14 ∨ j = 15 ∨ j = 16 by omega) with rfl | rfl | rfl | rfl | rfl | rfl | rfl | rfl | rfl | rfl | rfl | rfl | rfl | rfl | rfl | rfl | rfl
    · exact va_eqt (hs (.eq (.elem (.static RX6 "PRIME_POWERS" "[I") (.int 0)) (.int 32)) (by decide +kernel))
    · exact va_eqt (hs (.eq (.elem (.static RX6 "PRIME_POWERS" "[I") (.int 1)) (.int 27)) (by decide +kernel))
    · exact va_eqt (hs (.eq (.elem (.static RX6 "PRIME_POWERS" "[I") (.int 2)) (.int 25)) (by decide +kernel))
    · exact va_eqt (hs (.eq (.elem (.static RX6 "PRIME_POWERS" "[I") (.int 3)) (.int 49)) (by decide +kernel))
    · exact va_eqt (hs (.eq (.elem (.static RX6 "PRIME_POWERS" "[I") (.int 4)) (.int 11)) (by decide +kernel))
    · exact va_eqt (hs (.eq (.elem (.static RX6 "PRIME_POWERS" "[I") (.int 5)) (.int 13)) (by decide +kernel))
    · exact va_eqt (hs (.eq (.elem (.static RX6 "PRIME_POWERS" "[I") (.int 6)) (.int 17)) (by decide +kernel))
    · exact va_eqt (hs (.eq (.elem (.static RX6 "PRIME_POWERS" "[I") (.int 7)) (.int 19)) (by decide +kernel))
    · exact va_eqt (hs (.eq (.elem (.static RX6 "PRIME_POWERS" "[I") (.int 8)) (.int 23)) (by decide +kernel))
    · exact va_eqt (hs (.eq (.elem (.static RX6 "PRIME_POWERS" "[I") (.int 9)) (.int 29)) (by decide +kernel))
    · exact va_eqt (hs (.eq (.elem (.static RX6 "PRIME_POWERS" "[I") (.int 10)) (.int 31)) (by decide +kernel))
    · exact va_eqt (hs (.eq (.elem (.static RX6 "PRIME_POWERS" "[I") (.int 11)) (.int 37)) (by decide +kernel))
    · exact va_eqt (hs (.eq (.elem (.static RX6 "PRIME_POWERS" "[I") (.int 12)) (.int 41)) (by decide +kernel))
    · exact va_eqt (hs (.eq (.elem (.static RX6 "PRIME_POWERS" "[I") (.int 13)) (.int 43)) (by decide +kernel))
    · exact va_eqt (hs (.eq (.elem (.static RX6 "PRIME_POWERS" "[I") (.int 14)) (.int 47)) (by decide +kernel))
    · exact va_eqt (hs (.eq (.elem (.static RX6 "PRIME_POWERS" "[I") (.int 15)) (.int 53)) (by decide +kernel))
    · exact va_eqt (hs (.eq (.elem (.static RX6 "PRIME_POWERS" "[I") (.int 16)) (.int 59)) (by decide +kernel))) (fun a h1 h2 => by omega)
  refine ⟨((dC, dI), fun k => if k = 0 then aIc else if k = 1 then aJc else if k = 2 then a0 else if k = 3 then a5 else a9, t), ⟨hKc, ?_⟩, fun q hq => va_Nw.of rfl (hts _ (lw_nest q hq)), ⟨va_AO.of ov0, va_AO.of ov5, va_AO.of ov9⟩, va_Zof (hts (.laysStatic RX6 "PRIME_POWERS" "[I") (by decide +kernel)) (hts (.initialized RX6) (by decide +kernel)) ht1 (fun a h1 h2 => by omega), ht2⟩
  intro k q hq
  match k, hq with
  | 0, hq => cases hq; exact ⟨fun N z => ⟨(fun k h => by cases h), kkI, hI2, cpI, hI3⟩, hI1⟩
  | 1, hq => cases hq; exact ⟨fun N z => ⟨(fun k h => by cases h), kkJ, hJ2, cpJ, hJ3⟩, hJ1⟩
  | 2, hq => cases hq; exact ⟨fun N z => ⟨(fun k h => by cases h), kk0, h03, cp0, h04⟩, kk0, cp0, h03, h04, h01, h05⟩
  | 3, hq => cases hq; exact ⟨fun N z => ⟨(fun k h => by cases h), kk5, h53, cp5, h54⟩, kk5, cp5, h53, h54, h51, h55⟩
  | 4, hq => cases hq; exact ⟨fun N z => ⟨(fun k h => by cases h), kk9, h93, cp9, h94⟩, kk9, cp9, h93, h94, h91, h95⟩
  | k + 5, hq => simp [eT] at hq
