/-! ===== the law: one turn of its loop, the loop, its start ===== -/
set_option maxHeartbeats 4000000 in
set_option maxRecDepth 100000 in
theorem law_turn {p : Program} {l : Launch} {e : Env} {s : State} {m : MethodId} {args : Array Value} {below : List Frame} {meth : Method} {c : Code} {cells slots : Nat} {QQ : State → Prop} {E : wE} {A : Nat → Nat} {b LL : Nat} {xs : Nat → Int32} (X : CallFix p m c cL_law 4 s args wsL_law RL) (hcs : cells ≤ room_1.cells ∧ slots ≤ room_1.slots) (hS : SX (fun q => s.heap.size ≤ q) s b LL xs) {g : Nat → va_E} {H : Heap} {locs : List Loc} {ls : Array Slot} {i : Nat} (hW : wH E (fun q => s.heap.size ≤ q) A 227 s g H locs) (hI : LI E A g) (hi : i ≤ LL) (hl : lv_has ls 4 [(3, .int (iI ((i : Nat) : Int))), (2, .ref (A 210)), (1, .ref (A 0)), (0, .ref b)])
    (kend : W p l e room_1 s m args below meth c H locs cells slots QQ (F0 m 915 ls []))
    (knext : i + 5 ≤ LL → ∀ (g' : Nat → va_E) (H' : Heap) (locs' : List Loc) (ls' : Array Slot), wH E (fun q => s.heap.size ≤ q) A 227 s g' H' locs' → LI E A g' → lv_has ls' 4 [(3, .int (iI (((i + 5) : Nat) : Int))), (2, .ref (A 210)), (1, .ref (A 0)), (0, .ref b)] → W p l e room_1 s m args below meth c H' locs' cells slots QQ (F0 m 18 ls' [])) : W p l e room_1 s m args below meth c H locs cells slots QQ (F0 m 18 ls []) := by
  have hb4 := hS.2.2.2
  refine lv_iload_n X.1 X.2.1 dL_law_18 rfl (lv_at hl 0 rfl) ?_
  refine lv_aload_n X.1 X.2.1 dL_law_19 rfl (lv_at hl 3 rfl) ?_
  refine x_slen X hW hS dL_law_20 ?_
  refine x_iconst X dL_law_21 ?_
  refine x_isub X dL_law_22 ?_
  refine x_icmp_gt (tgt := 915) X (by unfold I32; omega) (by unfold I32; omega) dL_law_23 (by decide) (fun _ => kend) (fun hle => ?_)
  have hi5 : i + 5 ≤ LL := by omega
  have kn : ∀ (g' : Nat → va_E) (H' : Heap) (locs' : List Loc), wH E (fun q => s.heap.size ≤ q) A 227 s g' H' locs' → LI E A g' → W p l e room_1 s m args below meth c H' locs' cells slots QQ (F0 m 909 ls []) := by
    intro g' H' locs' hW' hI'
    refine lv_iinc (k := 0) (lv' := [(3, .int (iI (((i + 5) : Nat) : Int))), (2, .ref (A 210)), (1, .ref (A 0)), (0, .ref b)]) X.1 X.2.1 dL_law_909 hl rfl (v := iI (((i + 5) : Nat) : Int)) (by rw [show ((i + 5 : Nat) : Int) = (i : Int) + 5 from by omega]; exact iI_add _ _) (by decide) rfl (fun ls' hl' => ?_)
    refine lv_goto (tgt := 18) X.1 X.2.1 dL_law_912 (by decide) ?_
    exact knext hi5 g' H' locs' ls' hW' hI' hl'
  obtain ⟨z0, hz0, hI0⟩ := i32_of (xs i)
  refine lv_aload_n X.1 X.2.1 dL_law_26 rfl (lv_at hl 3 rfl) ?_
  refine lv_iload_n X.1 X.2.1 dL_law_27 rfl (lv_at hl 0 rfl) ?_
  refine x_sld X hW hS i rfl (by omega) hz0 dL_law_28 ?_
  refine x_bipush X (by decide) dL_law_29 ?_
  refine lv_iand X.1 X.2.1 dL_law_31 ?_
  generalize iI z0 &&& iI 31 = y
  by_cases hout : y.toInt < 0 ∨ 28 < y.toInt
  · exact lv_tableOut (tgt := 909) X.1 X.2.1 dL_law_32 hout (by decide) (kn g H locs hW hI)
  have h1 : ¬ y.toInt < 0 := fun h => hout (Or.inl h)
  have h2 : ¬ 28 < y.toInt := fun h => hout (Or.inr h)
  rcases (show y.toInt = 0 ∨ y.toInt = 1 ∨ y.toInt = 2 ∨ y.toInt = 3 ∨ y.toInt = 4 ∨ y.toInt = 5 ∨ y.toInt = 6 ∨ y.toInt = 7 ∨ y.toInt = 8 ∨ y.toInt = 9 ∨ y.toInt = 10 ∨ y.toInt = 11 ∨ y.toInt = 12 ∨ y.toInt = 13 ∨ y.toInt = 14 ∨ y.toInt = 15 ∨ y.toInt = 16 ∨ y.toInt = 17 ∨ y.toInt = 18 ∨ y.toInt = 19 ∨ y.toInt = 20 ∨ y.toInt = 21 ∨ y.toInt = 22 ∨ y.toInt = 23 ∨ y.toInt = 24 ∨ y.toInt = 25 ∨ y.toInt = 26 ∨ y.toInt = 27 ∨ y.toInt = 28 by omega) with hk | hk | hk | hk | hk | hk | hk | hk | hk | hk | hk | hk | hk | hk | hk | hk | hk | hk | hk | hk | hk | hk | hk | hk | hk | hk | hk | hk | hk
  · exact lv_tableIn (off := 132) (tgt := 164) X.1 X.2.1 dL_law_32 h1 h2 (by rw [hk]; rfl) (by decide) (op_row X hcs hS hW hI hi5 hl kn)
  · exact lv_tableIn (off := 175) (tgt := 207) X.1 X.2.1 dL_law_32 h1 h2 (by rw [hk]; rfl) (by decide) (op_tear X hcs hS hW hI hi5 hl kn)
  · exact lv_tableIn (off := 198) (tgt := 230) X.1 X.2.1 dL_law_32 h1 h2 (by rw [hk]; rfl) (by decide) (op_write X hcs hS hW hI hi5 hl kn)
  · exact lv_tableIn (off := 271) (tgt := 303) X.1 X.2.1 dL_law_32 h1 h2 (by rw [hk]; rfl) (by decide) (op_book X hcs hS hW hI hi5 hl kn)
  · exact lv_tableIn (off := 294) (tgt := 326) X.1 X.2.1 dL_law_32 h1 h2 (by rw [hk]; rfl) (by decide) (op_comer X hcs hS hW hI hi5 hl kn)
  · exact lv_tableIn (off := 317) (tgt := 349) X.1 X.2.1 dL_law_32 h1 h2 (by rw [hk]; rfl) (by decide) (op_dismiss X hcs hS hW hI hi5 hl kn)
  · exact lv_tableIn (off := 330) (tgt := 362) X.1 X.2.1 dL_law_32 h1 h2 (by rw [hk]; rfl) (by decide) (op_tell X hcs hS hW hI hi5 hl kn)
  · exact lv_tableIn (off := 363) (tgt := 395) X.1 X.2.1 dL_law_32 h1 h2 (by rw [hk]; rfl) (by decide) (op_told X hcs hS hW hI hi5 hl kn)
  · exact lv_tableIn (off := 374) (tgt := 406) X.1 X.2.1 dL_law_32 h1 h2 (by rw [hk]; rfl) (by decide) (op_best X hcs hS hW hI hi5 hl kn)
  · exact lv_tableIn (off := 385) (tgt := 417) X.1 X.2.1 dL_law_32 h1 h2 (by rw [hk]; rfl) (by decide) (op_bar X hcs hS hW hI hi5 hl kn)
  · exact lv_tableIn (off := 408) (tgt := 440) X.1 X.2.1 dL_law_32 h1 h2 (by rw [hk]; rfl) (by decide) (op_few X hcs hS hW hI hi5 hl kn)
  · exact lv_tableIn (off := 431) (tgt := 463) X.1 X.2.1 dL_law_32 h1 h2 (by rw [hk]; rfl) (by decide) (op_foresight X hcs hS hW hI hi5 hl kn)
  · exact lv_tableIn (off := 442) (tgt := 474) X.1 X.2.1 dL_law_32 h1 h2 (by rw [hk]; rfl) (by decide) (op_half X hcs hS hW hI hi5 hl kn)
  · exact lv_tableIn (off := 455) (tgt := 487) X.1 X.2.1 dL_law_32 h1 h2 (by rw [hk]; rfl) (by decide) (op_letting X hcs hS hW hI hi5 hl kn)
  · exact lv_tableIn (off := 488) (tgt := 520) X.1 X.2.1 dL_law_32 h1 h2 (by rw [hk]; rfl) (by decide) (op_pass X hcs hS hW hI hi5 hl kn)
  · exact lv_tableIn (off := 511) (tgt := 543) X.1 X.2.1 dL_law_32 h1 h2 (by rw [hk]; rfl) (by decide) (op_pay X hcs hS hW hI hi5 hl kn)
  · exact lv_tableIn (off := 544) (tgt := 576) X.1 X.2.1 dL_law_32 h1 h2 (by rw [hk]; rfl) (by decide) (op_ranks X hcs hS hW hI hi5 hl kn)
  · exact lv_tableIn (off := 567) (tgt := 599) X.1 X.2.1 dL_law_32 h1 h2 (by rw [hk]; rfl) (by decide) (op_yes X hcs hS hW hI hi5 hl kn)
  · exact lv_tableIn (off := 610) (tgt := 642) X.1 X.2.1 dL_law_32 h1 h2 (by rw [hk]; rfl) (by decide) (op_happen X hcs hS hW hI hi5 hl kn)
  · exact lv_tableIn (off := 643) (tgt := 675) X.1 X.2.1 dL_law_32 h1 h2 (by rw [hk]; rfl) (by decide) (op_forget X hcs hS hW hI hi5 hl kn)
  · exact lv_tableIn (off := 656) (tgt := 688) X.1 X.2.1 dL_law_32 h1 h2 (by rw [hk]; rfl) (by decide) (op_last X hcs hS hW hI hi5 hl kn)
  · exact lv_tableIn (off := 669) (tgt := 701) X.1 X.2.1 dL_law_32 h1 h2 (by rw [hk]; rfl) (by decide) (op_box X hcs hS hW hI hi5 hl kn)
  · exact lv_tableIn (off := 702) (tgt := 734) X.1 X.2.1 dL_law_32 h1 h2 (by rw [hk]; rfl) (by decide) (op_empty X hcs hS hW hI hi5 hl kn)
  · exact lv_tableIn (off := 715) (tgt := 747) X.1 X.2.1 dL_law_32 h1 h2 (by rw [hk]; rfl) (by decide) (op_fair X hcs hS hW hI hi5 hl kn)
  · exact lv_tableIn (off := 738) (tgt := 770) X.1 X.2.1 dL_law_32 h1 h2 (by rw [hk]; rfl) (by decide) (op_search X hcs hS hW hI hi5 hl kn)
  · exact lv_tableIn (off := 749) (tgt := 781) X.1 X.2.1 dL_law_32 h1 h2 (by rw [hk]; rfl) (by decide) (op_look X hcs hS hW hI hi5 hl kn)
  · exact lv_tableIn (off := 772) (tgt := 804) X.1 X.2.1 dL_law_32 h1 h2 (by rw [hk]; rfl) (by decide) (op_part X hcs hS hW hI hi5 hl kn)
  · exact lv_tableIn (off := 821) (tgt := 853) X.1 X.2.1 dL_law_32 h1 h2 (by rw [hk]; rfl) (by decide) (op_compare X hcs hS hW hI hi5 hl kn)
  · exact lv_tableIn (off := 854) (tgt := 886) X.1 X.2.1 dL_law_32 h1 h2 (by rw [hk]; rfl) (by decide) (op_count X hcs hS hW hI hi5 hl kn)
theorem law_loop {p : Program} {l : Launch} {e : Env} {s : State} {m : MethodId} {args : Array Value} {below : List Frame} {meth : Method} {c : Code} {cells slots : Nat} {QQ : State → Prop} {E : wE} {A : Nat → Nat} {b LL : Nat} {xs : Nat → Int32} (X : CallFix p m c cL_law 4 s args wsL_law RL) (hcs : cells ≤ room_1.cells ∧ slots ≤ room_1.slots) (hS : SX (fun q => s.heap.size ≤ q) s b LL xs)
    (kend : ∀ (g' : Nat → va_E) (H' : Heap) (locs' : List Loc) (ls' : Array Slot), wH E (fun q => s.heap.size ≤ q) A 227 s g' H' locs' → W p l e room_1 s m args below meth c H' locs' cells slots QQ (F0 m 915 ls' [])) : ∀ (d i : Nat), LL ≤ i + d → i ≤ LL → ∀ (g : Nat → va_E) (H : Heap) (locs : List Loc) (ls : Array Slot), wH E (fun q => s.heap.size ≤ q) A 227 s g H locs → LI E A g → lv_has ls 4 [(3, .int (iI ((i : Nat) : Int))), (2, .ref (A 210)), (1, .ref (A 0)), (0, .ref b)] → W p l e room_1 s m args below meth c H locs cells slots QQ (F0 m 18 ls []) := by
  intro d
  induction d with
  | zero =>
    intro i hd hi g H locs ls hW hI hl
    exact law_turn X hcs hS hW hI hi hl (kend g H locs ls hW) (fun h => absurd h (by omega))
  | succ d ih =>
    intro i hd hi g H locs ls hW hI hl
    exact law_turn X hcs hS hW hI hi hl (kend g H locs ls hW) (fun h g' H' locs' ls' hW' hI' hl' => ih (i + 5) (by omega) h g' H' locs' ls' hW' hI' hl')
