/-! ===== the law: what holds between two of its cases ===== -/
def LC (E : wE) (A : Nat → Nat) (g : Nat → va_E) (i : Nat) (rw : Nat → Int) (rl : Nat → Int) (nm : Nat → Nat → Int) (bk : Nat) (L : Nat → List (Nat × Nat)) (cz : Nat) (co : Nat → Nat) (br : Nat → Nat) (py : Nat → Nat) (hz : Nat) (ta : Nat → Nat) (tb : Nat → Nat) (xz : Nat) (bx : Nat → Nat) (px : Nat → Nat) (P : Nat → Int) (Q : Nat → Nat) (od : Nat → Nat) (tz : Int) (bz : Nat) : Prop := g i = kO A i bk ∧ KR E A g i rw rl nm ∧ KB E A g i bk L ∧ ResV E A g (i + 3) tz bz ∧ ComV E A g (i + 12) cz (bcl i co) br ∧ PasV E A g (i + 54) (pr ppV 17) ∧ RkV E A g (i + 65) py ∧ HapV E A g (i + 114) hz ta tb ∧ BoxV E A g (i + 123) xz (bcl i bx) px P Q od
def LM (E : wE) (A : Nat → Nat) (g : Nat → va_E) (i : Nat) (rw : Nat → Int) (rl : Nat → Int) (nm : Nat → Nat → Int) (bk : Nat) (L : Nat → List (Nat × Nat)) (cz : Nat) (co : Nat → Nat) (br : Nat → Nat) (py : Nat → Nat) (hz : Nat) (ta : Nat → Nat) (tb : Nat → Nat) (xz : Nat) (bx : Nat → Nat) (px : Nat → Nat) (P : Nat → Int) (Q : Nat → Nat) (od : Nat → Nat) (tz : Int) (bz : Nat) : Prop := ∃ q : Nat → Int, g i = mO A i q ∧ (q 0 = (bk : Int) ∧ q 1 = (cz : Int) ∧ q 2 = (hz : Int) ∧ q 3 = (xz : Int)) ∧ MR E A g i tz bz ∧ RowsM E A g i rw rl nm ∧ BooksM E A g i bk L ∧ ComM E A g i bk cz co br ∧ PayM E A g i py ∧ HapM E A g i hz ta tb ∧ BoxM E A g i bk xz bx px ∧ ∃ f : Nat → Int32, g (i + 16) = aI E 50 f
def LPs (rw : Nat → Int) (rl : Nat → Int) (nm : Nat → Nat → Int) (bk : Nat) (L : Nat → List (Nat × Nat)) (cz : Nat) (co : Nat → Nat) (br : Nat → Nat) (py : Nat → Nat) (hz : Nat) (ta : Nat → Nat) (tb : Nat → Nat) (xz : Nat) (bx : Nat → Nat) (px : Nat → Nat) (P : Nat → Int) (Q : Nat → Nat) (od : Nat → Nat) (tz : Int) (bz : Nat) : Prop := (tz.natAbs ≤ 10 ^ 44 ∧ bz ≤ 10 ^ 44) ∧ ∀ k, k < xz → FairV (L (bx k)) ((px k * bE (L (bx k)) (fun _ => 1) : Nat) : Int) (P k) (Q k)
def LI (E : wE) (A : Nat → Nat) (g : Nat → va_E) : Prop := ∃ (rw : Nat → Int) (rl : Nat → Int) (nm : Nat → Nat → Int) (bk : Nat) (L : Nat → List (Nat × Nat)) (cz : Nat) (co : Nat → Nat) (br : Nat → Nat) (py : Nat → Nat) (hz : Nat) (ta : Nat → Nat) (tb : Nat → Nat) (xz : Nat) (bx : Nat → Nat) (px : Nat → Nat) (P : Nat → Int) (Q : Nat → Nat) (od : Nat → Nat) (tz : Int) (bz : Nat), LC E A g 0 rw rl nm bk L cz co br py hz ta tb xz bx px P Q od tz bz ∧ LM E A g 210 rw rl nm bk L cz co br py hz ta tb xz bx px P Q od tz bz ∧ LPs rw rl nm bk L cz co br py hz ta tb xz bx px P Q od tz bz
theorem MR_frame {E : wE} {A : Nat → Nat} {g g' : Nat → va_E} {i : Nat} {tz : Int} {bz : Nat} (h : MR E A g i tz bz) (hg : g' (i + 1) = g (i + 1)) : MR E A g' i tz bz := by
  obtain ⟨N, hN, h0, h1⟩ := h
  exact ⟨N, MN_frame hN hg, h0, h1⟩
theorem LC_fr {E : wE} {A : Nat → Nat} {g g' : Nat → va_E} {i : Nat} {rw : Nat → Int} {rl : Nat → Int} {nm : Nat → Nat → Int} {bk : Nat} {L : Nat → List (Nat × Nat)} {cz : Nat} {co : Nat → Nat} {br : Nat → Nat} {py : Nat → Nat} {hz : Nat} {ta : Nat → Nat} {tb : Nat → Nat} {xz : Nat} {bx : Nat → Nat} {px : Nat → Nat} {P : Nat → Int} {Q : Nat → Nat} {od : Nat → Nat} {tz : Int} {bz : Nat} (h : LC E A g i rw rl nm bk L cz co br py hz ta tb xz bx px P Q od tz bz) (hf : ∀ j, (i ≤ j ∧ j ≤ i + 209) → g' j = g j) : LC E A g' i rw rl nm bk L cz co br py hz ta tb xz bx px P Q od tz bz := by
  obtain ⟨c0, cR, cB, cT, cC, cP, cK, cH, cX⟩ := h
  exact ⟨(hf i (by omega)).trans c0, cR.frame (hf _ (by omega)) (fun j h1 h2 => hf j (by omega)), cB.frame (hf _ (by omega)) (fun j h1 h2 => hf j (by omega)), cT.frame (fun j h1 h2 => hf j (by omega)), cC.frame (fun j h1 h2 => hf j (by omega)), cP.frame (fun j h1 h2 => hf j (by omega)), cK.frame (fun j h1 h2 => hf j (by omega)), cH.frame (fun j h1 h2 => hf j (by omega)), cX.frame (fun j h1 h2 => hf j (by omega))⟩
theorem LM_fr {E : wE} {A : Nat → Nat} {g g' : Nat → va_E} {i : Nat} {rw : Nat → Int} {rl : Nat → Int} {nm : Nat → Nat → Int} {bk : Nat} {L : Nat → List (Nat × Nat)} {cz : Nat} {co : Nat → Nat} {br : Nat → Nat} {py : Nat → Nat} {hz : Nat} {ta : Nat → Nat} {tb : Nat → Nat} {xz : Nat} {bx : Nat → Nat} {px : Nat → Nat} {P : Nat → Int} {Q : Nat → Nat} {od : Nat → Nat} {tz : Int} {bz : Nat} (h : LM E A g i rw rl nm bk L cz co br py hz ta tb xz bx px P Q od tz bz) (hf : ∀ j, (i ≤ j ∧ j ≤ i + 16) → g' j = g j) : LM E A g' i rw rl nm bk L cz co br py hz ta tb xz bx px P Q od tz bz := by
  obtain ⟨q, m0, mq, mN, mR, mB, mC, mP, mH, mX, f16, m16⟩ := h
  exact ⟨q, (hf i (by omega)).trans m0, mq, MR_frame mN (hf _ (by omega)), mR.frame (hf _ (by omega)) (hf _ (by omega)) (hf _ (by omega)), mB.frame (fun j h1 h2 => hf j (by omega)), mC.frame (hf _ (by omega)) (hf _ (by omega)), mP.frame (hf _ (by omega)), mH.frame (hf _ (by omega)) (hf _ (by omega)), mX.frame (hf _ (by omega)) (hf _ (by omega)), ⟨f16, (hf _ (by omega)).trans m16⟩⟩
theorem LI_start {E : wE} {A : Nat → Nat} {g : Nat → va_E} (h1 : ClsB E A g 0) (h2 : ModB E A g 210) : LI E A g := by
  obtain ⟨c0, cR, ⟨⟨f, f1, f2⟩, cB⟩, cT, cC, cP, cK, cH, cX⟩ := h1
  obtain ⟨m0, mN, e2, e3, e4, e5, e6, e7, e8, e9, e10, e11, e12, e13, e14, e15, e16⟩ := h2
  refine ⟨fun _ => 0, fun _ => -1, fun _ _ => 0, 0, fun _ => [], 0, fun _ => 0, fun _ => 0, fun _ => 0, 0, fun _ => 0, fun _ => 0, 0, fun _ => 0, fun _ => 0, fun _ => 0, fun _ => 0, fun _ => 0, 0, 1, ?_, ?_, ?_⟩
  · exact ⟨c0, cR, ⟨⟨f, f1, f2⟩, by omega, fun b hb => absurd hb (by omega), fun b hb => ⟨0, _, _, 0, cB b hb⟩⟩, cT, cC.v _ _, cP, cK, cH, cX.v _ _ _ _ _⟩
  · refine ⟨fun _ => 0, m0, ⟨rfl, rfl, rfl, rfl⟩, mN, ⟨_, _, _, e2, e3, e4, fun k hk => ⟨⟨by show (-1 : Int) ≤ -1; omega, by show (-1 : Int) ≤ 40; omega⟩, rfl, fun h => absurd rfl h⟩⟩, ⟨_, _, _, _, e5, e6, e7, e8, by omega, fun b hb => absurd hb (by omega)⟩, ⟨_, _, e9, e10, by omega, fun b hb => absurd hb (by omega)⟩, ⟨_, e11, fun k hk => ⟨rfl, Nat.zero_le _⟩⟩, ⟨_, _, e12, e13, by omega, fun b hb => absurd hb (by omega)⟩, ⟨_, _, e14, e15, by omega, fun b hb => absurd hb (by omega)⟩, _, e16⟩
  · exact ⟨⟨by decide, by decide⟩, fun k hk => absurd hk (by omega)⟩
section
variable {p : Program} {l : Launch} {e : Env} {R : Room} {s : State} {m : MethodId} {args : Array Value} {below : List Frame} {meth : Method} {c : Code} {H : Heap} {locs : List Loc} {cells slots : Nat} {Q : State → Prop} {cc : ByteArray} {nL : Nat} {Ts : List Cond} {own : String} {pc : Nat} {ls : Array Slot} {rest st0 : List Value} {E : wE} {F : Nat → Prop} {A : Nat → Nat} {n i : Nat} {g : Nat → va_E}
def SX (F : Nat → Prop) (s : State) (b L : Nat) (xs : Nat → Int32) : Prop := va_X b L xs s s.heap ∧ b < s.heap.size ∧ ¬ F b ∧ L ≤ 2560
theorem x_sld {b L : Nat} {xs : Nat → Int32} (X : CallFix p m c cc nL s args Ts own) (hW : wH E F A n s g H locs) (hX : SX F s b L xs) {z v : Int} (k : Nat) (hz : z = (k : Int)) (hk : k < L) (hv : xs k = iI v) (hdg : decode cc pc = .ok (.iaload, 1))
    (kk : W p l e R s m args below meth c H locs cells slots Q (F0 m (pc + 1) ls (.int (iI v) :: rest))) : W p l e R s m args below meth c H locs cells slots Q (F0 m pc ls (.int (iI z) :: .ref b :: rest)) := by
  obtain ⟨h1, h2, h3, h4⟩ := hX
  subst hz
  rw [← nI_iI]
  refine va_sld X.1 X.2.1 h1 h2 h3 hW.2.2.1 (vp_in_nI hk (by omega)) hdg ?_
  rw [nI_clamp (by omega), hv]
  exact kk
theorem x_slen {b L : Nat} {xs : Nat → Int32} (X : CallFix p m c cc nL s args Ts own) (hW : wH E F A n s g H locs) (hX : SX F s b L xs) (hdg : decode cc pc = .ok (.arraylength, 1))
    (kk : W p l e R s m args below meth c H locs cells slots Q (F0 m (pc + 1) ls (.int (iI (L : Int)) :: rest))) : W p l e R s m args below meth c H locs cells slots Q (F0 m pc ls (.ref b :: rest)) := by
  obtain ⟨h1, h2, h3, h4⟩ := hX
  refine va_slen X.1 X.2.1 h1 h2 h3 hW.2.2.1 hdg ?_
  exact kk
theorem i32_of (x : Int32) : ∃ z : Int, x = iI z ∧ I32 z := by
  refine ⟨x.toInt, ?_, ?_⟩
  · exact (Int32.ofInt_toInt x).symm
  · have h1 := Int32.le_toInt x
    have h2 := Int32.toInt_lt x
    unfold I32
    omega
end
