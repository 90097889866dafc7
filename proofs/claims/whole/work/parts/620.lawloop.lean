/-! THE LAW'S LOOP -/
theorem lw_loop {D : va_G} {X1 X2 : zE} {p : Program} {l : Launch} {e : Env} {s : State} {m : MethodId} {below : List Frame} {meth : Method} {c : Code} {Q : State → Prop} {b L : Nat} {xs : Nat → Int32} {cells slots : Nat} (S : CallFix p m c cL_law 4 s #[Value.ref b] wsL_law RL) (K1 : zK D X1 s) (K2 : zK D X2 s) (I1 : zw_inj 44 X1.1) (I2 : zw_inj 9 X2.1) (XX : LX 44 X1 9 X2 s) (hX : va_X b L xs s s.heap) (hbl : b < s.heap.size) (hL : L ≤ 2048) (hf : cells + 0 ≤ room_1.cells ∧ slots + 0 ≤ room_1.slots)
    (hend : ∀ (H : Heap) (locs : List Loc) (ls : Array Slot), va_S (fun q : Nat => s.heap.size ≤ q) s.heap H locs → W p l e room_1 s m #[Value.ref b] below meth c H locs cells slots Q (F0 m 675 ls [])) : ∀ (n i : Nat) (ls : Array Slot) (z m0 : zV) (H : Heap) (locs : List Loc), L + 4 - i ≤ n → i ≤ L + 3 → lv_has ls 4 [(0, .ref b), (1, .ref (X1.1 42)), (2, .ref (X2.1 0)), (3, .int (nI i))] → JJ z m0 → LG D 44 X1 (zc shC X1 z) 9 X2 (zc shM X2 m0) s H locs → W p l e room_1 s m #[Value.ref b] below meth c H locs cells slots Q (F0 m 18 ls []) := by
  obtain ⟨hx, hb, -, -, hts⟩ := id S
  intro n
  induction n with
  | zero => intro i ls z m0 H locs h1 h2; omega
  | succ n ih =>
    intro i ls z m0 H locs h1 h2 hl J hg
    refine lv_iload_n hx hb dL_law_18 rfl (lv_at hl 3 rfl) ?_
    refine lv_aload_n hx hb dL_law_19 rfl (lv_at hl 0 rfl) ?_
    refine va_slen hx hb hX hbl (Nat.not_le.mpr hbl) hg.2.2 dL_law_20 ?_
    refine lv_iconst (v := nI 4) hx hb dL_law_21 (by decide) ?_
    refine lv_isub hx hb dL_law_22 ?_
    refine lv_icmp_gt hx hb dL_law_23 (tgt := 675) (by decide) (fun _ => hend H locs ls hg.2.2) (fun h => ?_)
    have hi : i + 3 < L := by
      have e1 : (Int32.ofNat L - nI 4).toInt = (L : Int) - (4 : Nat) := pk_sub_toInt (a := L) (b := 4) (by omega) (by omega)
      rw [lt_toInt, e1, nI_toI (by omega)] at h
      omega
    have C : LC p m c s b L xs D X1 X2 i ls := ⟨S, K1, K2, I1, I2, XX, hX, hbl, hi, hL, hl⟩
    have nxt : ∀ (z' m' : zV) (H' : Heap) (locs' : List Loc), JJ z' m' → LG D 44 X1 (zc shC X1 z') 9 X2 (zc shM X2 m') s H' locs' → W p l e room_1 s m #[Value.ref b] below meth c H' locs' cells slots Q (F0 m 669 ls []) := fun z' m' H' locs' J' hg' => by
      refine lv_iinc hx hb dL_law_669 hl (k := 3) (v := nI (i + 4)) rfl (nI_add (a := i) (b := 4)) (by omega) rfl (fun ls' hl' => ?_)
      refine lv_goto hx hb dL_law_672 (tgt := 18) (by decide) ?_
      exact ih (i + 4) ls' z' m' H' locs' (by omega) (by omega) (lv_sub hl' [1, 2, 3, 0] rfl) J' hg'
    refine lv_aload_n hx hb dL_law_26 rfl (lv_at hl 0 rfl) ?_
    refine lv_iload_n hx hb dL_law_27 rfl (lv_at hl 3 rfl) ?_
    refine va_sld hx hb hX hbl (Nat.not_le.mpr hbl) hg.2.2 (pk_in i L (by omega)) dL_law_28 ?_
    refine lv_bipush (v := nI 31) hx hb dL_law_29 (by decide) ?_
    refine lv_iand hx hb dL_law_31 ?_
    obtain ⟨j, hj, ej⟩ := pk_andE (xs (nI i).toNatClampNeg) (m := nI 31) 5 (by decide)
    rw [ej]
    by_cases q : 20 < j
    · exact lv_tableOut hx hb dL_law_32 (tgt := 669) (Or.inr (by rw [nI_toI (by omega)]; omega)) (by decide) (nxt _ _ _ _ J hg)
    · have hcase : j = 0 ∨ j = 1 ∨ j = 2 ∨ j = 3 ∨ j = 4 ∨ j = 5 ∨ j = 6 ∨ j = 7 ∨ j = 8 ∨ j = 9 ∨ j = 10 ∨ j = 11 ∨ j = 12 ∨ j = 13 ∨ j = 14 ∨ j = 15 ∨ j = 16 ∨ j = 17 ∨ j = 18 ∨ j = 19 ∨ j = 20 := by omega
      rcases hcase with rfl | rfl | rfl | rfl | rfl | rfl | rfl | rfl | rfl | rfl | rfl | rfl | rfl | rfl | rfl | rfl | rfl | rfl | rfl | rfl | rfl
      · exact lv_tableIn hx hb dL_law_32 (off := 100) (tgt := 132) (by decide) (by decide) rfl (by decide) (ca_setRow C hg J hf nxt)
      · exact lv_tableIn hx hb dL_law_32 (off := 123) (tgt := 155) (by decide) (by decide) rfl (by decide) (ca_setKey C hg J hf nxt)
      · exact lv_tableIn hx hb dL_law_32 (off := 156) (tgt := 188) (by decide) (by decide) rfl (by decide) (ca_addWords C hg J hf nxt)
      · exact lv_tableIn hx hb dL_law_32 (off := 169) (tgt := 201) (by decide) (by decide) rfl (by decide) (ca_dropWord C hg J hf nxt)
      · exact lv_tableIn hx hb dL_law_32 (off := 192) (tgt := 224) (by decide) (by decide) rfl (by decide) (ca_guess C hg J hf nxt)
      · exact lv_tableIn hx hb dL_law_32 (off := 227) (tgt := 259) (by decide) (by decide) rfl (by decide) (ca_guessWord C hg J hf nxt)
      · exact lv_tableIn hx hb dL_law_32 (off := 260) (tgt := 292) (by decide) (by decide) rfl (by decide) (ca_buy C hg J hf nxt)
      · exact lv_tableIn hx hb dL_law_32 (off := 283) (tgt := 315) (by decide) (by decide) rfl (by decide) (ca_check C hg J hf nxt)
      · exact lv_tableIn hx hb dL_law_32 (off := 306) (tgt := 338) (by decide) (by decide) rfl (by decide) (ca_give C hg J hf nxt)
      · exact lv_tableIn hx hb dL_law_32 (off := 329) (tgt := 361) (by decide) (by decide) rfl (by decide) (ca_type C hg J hf nxt)
      · exact lv_tableIn hx hb dL_law_32 (off := 354) (tgt := 386) (by decide) (by decide) rfl (by decide) (ca_clearText C hg J hf nxt)
      · exact lv_tableIn hx hb dL_law_32 (off := 367) (tgt := 399) (by decide) (by decide) rfl (by decide) (ca_undo C hg J hf nxt)
      · exact lv_tableIn hx hb dL_law_32 (off := 380) (tgt := 412) (by decide) (by decide) rfl (by decide) (ca_keep C hg J hf nxt)
      · exact lv_tableIn hx hb dL_law_32 (off := 393) (tgt := 425) (by decide) (by decide) rfl (by decide) (ca_restore C hg J hf nxt)
      · exact lv_tableIn hx hb dL_law_32 (off := 406) (tgt := 438) (by decide) (by decide) rfl (by decide) (ca_cell C hg J hf nxt)
      · exact lv_tableIn hx hb dL_law_32 (off := 449) (tgt := 481) (by decide) (by decide) rfl (by decide) (ca_number C hg J hf nxt)
      · exact lv_tableIn hx hb dL_law_32 (off := 482) (tgt := 514) (by decide) (by decide) rfl (by decide) (ca_word C hg J hf nxt)
      · exact lv_tableIn hx hb dL_law_32 (off := 515) (tgt := 547) (by decide) (by decide) rfl (by decide) (ca_fits C hg J hf nxt)
      · exact lv_tableIn hx hb dL_law_32 (off := 548) (tgt := 580) (by decide) (by decide) rfl (by decide) (ca_listed C hg J hf nxt)
      · exact lv_tableIn hx hb dL_law_32 (off := 581) (tgt := 613) (by decide) (by decide) rfl (by decide) (ca_could C hg J hf nxt)
      · exact lv_tableIn hx hb dL_law_32 (off := 614) (tgt := 646) (by decide) (by decide) rfl (by decide) (ca_count C hg J hf nxt)
