/-! SoldLetters.isInGrid -/
noncomputable def f_X3_isInGrid (z0 : zV) (a0 : Int32) : Option (Int32) :=
    (if a0 < nI 0 then (rB (nI 0) (some (nI 0))) else (if (nI 7) ≤ a0 then (rB (nI 0) (some (nI 0))) else (rB (nI 1) (some (nI 1)))))
/-! SoldLetters.isLetter -/
noncomputable def f_X3_isLetter (z0 : zV) (a0 : Int32) : Option (Int32) :=
    (if a0 < (nI 97) then (rB (nI 0) (some (nI 0))) else (if (nI 122) < a0 then (rB (nI 0) (some (nI 0))) else (rB (nI 1) (some (nI 1)))))
/-! SoldLetters$Text.faultAsRow -/
noncomputable def l_X1_faultAsRow_2 (z0 : zV) : Nat → Int32 → Option (Int32)
  | 0, _ => none
  | n_ + 1, x1 =>
    (if (z0.1 40 1) ≤ x1 then (if (z0.1 40 1) = nI 0 then (some (nI 0)) else (some (-1))) else (if (nI 7) ≤ x1 then (some x1) else (rA (z0.2.1 41) 60 x1 (fun v_21 => (Option.bind (f_X3_isLetter z0 v_21) (fun v_22 => (if v_22 = nI 0 then (rA (z0.2.1 41) 60 x1 (fun v_33 => (if v_33 = (nI 46) then (l_X1_faultAsRow_2 z0 n_ (x1 + nI 1)) else (some x1)))) else (l_X1_faultAsRow_2 z0 n_ (x1 + nI 1)))))))))
noncomputable def f_X1_faultAsRow (z0 : zV) : Option (Int32) :=
    (l_X1_faultAsRow_2 z0 1000 (nI 0))
/-! SoldLetters$State.copyFrom -/
noncomputable def l_X0_copyFrom_47 (q0 : Nat) (q1 : Nat) : Nat → zV → Int32 → Option (zV)
  | 0, _, _ => none
  | n_ + 1, z0, x2 =>
    (if (nI 26) < x2 then (pS z0 q0 5 (z0.1 q1 5) (fun z_88 => (pS z_88 q0 6 (z_88.1 q1 6) (fun z_96 => (pS z_96 q0 7 (z_96.1 q1 7) (fun z_104 => (pS z_104 q0 8 (z_104.1 q1 8) (fun z_112 => (pS z_112 q0 9 (z_112.1 q1 9) (fun z_120 => (pS z_120 q0 10 (z_120.1 q1 10) (fun z_128 => (some z_128))))))))))))) else (rA (z0.2.1 (q1 + 2)) 27 x2 (fun v_63 => (wS z0 (q0 + 2) 27 x2 v_63 (fun z_64 => (rA (z_64.2.1 (q1 + 3)) 27 x2 (fun v_75 => (wS z_64 (q0 + 3) 27 x2 (vp_nar .boolean v_75) (fun z_76 => (l_X0_copyFrom_47 q0 q1 n_ z_76 (x2 + nI 1)))))))))))
noncomputable def f_X0_copyFrom (z0 : zV) (q0 : Nat) (q1 : Nat) : Option (zV) :=
    (gSt q0 (gSt q1 (cpS z0 (q0 + 1) 49 (q1 + 1) 49 (nI 0) (nI 0) (nI 49) (fun z_12 => (cpS z_12 (q0 + 4) 84 (q1 + 4) 84 (nI 0) (nI 0) (nI 84) (fun z_27 => (cpS z_27 (q0 + 5) 12 (q1 + 5) 12 (nI 0) (nI 0) (nI 12) (fun z_42 => (l_X0_copyFrom_47 q0 q1 1000 z_42 (nI 1))))))))))
/-! SoldLetters.remember -/
noncomputable def l_X3_remember_17 : Nat → zV → Nat → Int32 → Option (zV)
  | 0, _, _, _ => none
  | n_ + 1, z0, q_1, x2 =>
    (if (nI 4) ≤ x2 then (wP z0 (nI 3) q_1 (fun z_48 => (pS z_48 42 5 ((z_48.1 42 5) - (nI 1)) (fun z_56 => (rP z_56 (z_56.1 42 5) (fun q_67 => (Option.bind (f_X0_copyFrom z_56 q_67 0) (fun z_72 => (pS z_72 42 5 ((z_72.1 42 5) + (nI 1)) (fun z_82 => (some z_82))))))))))) else (rP z0 x2 (fun q_34 => (wP z0 (x2 - (nI 1)) q_34 (fun z_35 => (l_X3_remember_17 n_ z_35 q_1 (x2 + nI 1)))))))
noncomputable def f_X3_remember (z0 : zV) : Option (zV) :=
    (if (z0.1 42 5) = (nI 4) then (rP z0 (nI 0) (fun q_13 => (l_X3_remember_17 1000 z0 q_13 (nI 1)))) else (rP z0 (z0.1 42 5) (fun q_67 => (Option.bind (f_X0_copyFrom z0 q_67 0) (fun z_72 => (pS z_72 42 5 ((z_72.1 42 5) + (nI 1)) (fun z_82 => (some z_82))))))))
/-! SoldLetters$Text.letterInRow -/
noncomputable def f_X1_letterInRow (z0 : zV) (a0 : Int32) : Option (Int32) :=
    (if (z0.1 40 1) ≤ a0 then (some (nI 0)) else (rA (z0.2.1 41) 60 a0 (fun v_13 => (Option.bind (f_X3_isLetter z0 v_13) (fun v_14 => (if v_14 = nI 0 then (some (nI 0)) else (rA (z0.2.1 41) 60 a0 (fun v_25 => (some v_25)))))))))
/-! SoldLetters$State.forgetGuesses -/
noncomputable def l_X0_forgetGuesses_2 : Nat → zV → Int32 → Option (zV)
  | 0, _, _ => none
  | n_ + 1, z0, x1 =>
    (if (nI 26) < x1 then (some z0) else (wS z0 2 27 x1 (nI 0) (fun z_14 => (wS z_14 3 27 x1 (vp_nar .boolean (nI 0)) (fun z_21 => (l_X0_forgetGuesses_2 n_ z_21 (x1 + nI 1)))))))
noncomputable def f_X0_forgetGuesses (z0 : zV) : Option (zV) :=
    (l_X0_forgetGuesses_2 1000 z0 (nI 1))
/-! SoldLetters$Words.append -/
noncomputable def f_X2_append (z0 : zV) (a0 : Int32) (a1 : Int32) (a2 : Int32) : Option (zV) :=
    (if a1 < (nI 2) then (some z0) else (if (z0.1 36 3) < (nI 28) then (wS z0 37 28 (z0.1 36 3) a0 (fun z_24 => (wS z_24 38 28 (z_24.1 36 3) a1 (fun z_34 => (wS z_34 39 28 (z_34.1 36 3) a2 (fun z_44 => (pS z_44 36 3 ((z_44.1 36 3) + (nI 1)) (fun z_52 => (some z_52))))))))) else (some z0)))
/-! SoldLetters$Words.findInLine -/
noncomputable def j_X2_findInLine_37 (k_6 : zV → Int32 → Int32 → Int32 → Int32 → Option (zV)) (z0 : zV) (x2 : Int32) (x3 : Int32) (x4 : Int32) (x5 : Int32) : Option (zV) :=
    (Option.bind (f_X2_append z0 (x2 + ((x5 - x4) * x3)) x4 x3) (fun z_50 => (k_6 z_50 x2 x3 (nI 0) (x5 + nI 1))))
noncomputable def l_X2_findInLine_6 : Nat → zV → Int32 → Int32 → Int32 → Int32 → Option (zV)
  | 0, _, _, _, _, _ => none
  | n_ + 1, z0, x2, x3, x4, x5 =>
    (if (nI 7) < x5 then (some z0) else (if (nI 7) ≤ x5 then (j_X2_findInLine_37 (l_X2_findInLine_6 n_) z0 x2 x3 x4 x5) else (rA (z0.2.1 1) 49 (x2 + (x5 * x3)) (fun v_27 => (if v_27 = nI 0 then (j_X2_findInLine_37 (l_X2_findInLine_6 n_) z0 x2 x3 x4 x5) else (l_X2_findInLine_6 n_ z0 x2 x3 (x4 + nI 1) (x5 + nI 1)))))))
noncomputable def f_X2_findInLine (z0 : zV) (a1 : Int32) (a2 : Int32) : Option (zV) :=
    (l_X2_findInLine_6 1000 z0 a1 a2 (nI 0) (nI 0))
/-! SoldLetters$Words.find -/
noncomputable def l_X2_find_31 : Nat → zV → Int32 → Option (zV)
  | 0, _, _ => none
  | n_ + 1, z0, x2 =>
    (if (nI 7) ≤ x2 then (some z0) else (Option.bind (f_X2_findInLine z0 x2 (nI 7)) (fun z_42 => (l_X2_find_31 n_ z_42 (x2 + nI 1)))))
noncomputable def l_X2_find_7 : Nat → zV → Int32 → Option (zV)
  | 0, _, _ => none
  | n_ + 1, z0, x2 =>
    (if (nI 7) ≤ x2 then (l_X2_find_31 1000 z0 (nI 0)) else (Option.bind (f_X2_findInLine z0 (x2 * (nI 7)) (nI 1)) (fun z_20 => (l_X2_find_7 n_ z_20 (x2 + nI 1)))))
noncomputable def f_X2_find (z0 : zV) : Option (zV) :=
    (pS z0 36 3 (nI 0) (fun z_2 => (l_X2_find_7 1000 z_2 (nI 0))))
/-! SoldLetters.setRow -/
noncomputable def l_X3_setRow_32 : Nat → zV → Int32 → Int32 → Option (Int32 × zV)
  | 0, _, _, _ => none
  | n_ + 1, z0, x1, x3 =>
    (if (nI 7) ≤ x3 then (Option.bind (f_X0_forgetGuesses z0) (fun z_70 => (Option.bind (f_X2_find z_70) (fun z_84 => (some ((z_84.1 36 3), z_84)))))) else (Option.bind (f_X1_letterInRow z0 x3) (fun v_56 => (wS z0 1 49 ((x1 * (nI 7)) + x3) v_56 (fun z_59 => (l_X3_setRow_32 n_ z_59 x1 (x3 + nI 1)))))))
noncomputable def f_X3_setRow (z0 : zV) (a0 : Int32) : Option (Int32 × zV) :=
    (Option.bind (f_X3_isInGrid z0 a0) (fun v_1 => (if v_1 = nI 0 then (some ((-1), z0)) else (Option.bind (f_X1_faultAsRow z0) (fun v_13 => (if v_13 < nI 0 then (Option.bind (f_X3_remember z0) (fun z_27 => (l_X3_setRow_32 1000 z_27 a0 (nI 0)))) else (some (((-100) - v_13), z0))))))))
/-! SoldLetters.isFactor -/
noncomputable def f_X3_isFactor (z0 : zV) (a0 : Int32) : Option (Int32) :=
    (if a0 < (nI 1) then (rB (nI 0) (some (nI 0))) else (if (nI 26) ≤ a0 then (rB (nI 0) (some (nI 0))) else (if (a0 - a0 / (nI 2) * (nI 2)) = (nI 1) then (if a0 = (nI 13) then (rB (nI 0) (some (nI 0))) else (rB (nI 1) (some (nI 1)))) else (rB (nI 0) (some (nI 0))))))
/-! SoldLetters$State.numberOf -/
noncomputable def f_X0_numberOf (z0 : zV) (a0 : Int32) : Option (Int32) :=
    (some (((((z0.1 0 6) * (a0 - (nI 97))) + (z0.1 0 7)) - (((z0.1 0 6) * (a0 - (nI 97))) + (z0.1 0 7)) / (nI 26) * (nI 26)) + (nI 1)))
/-! SoldLetters.setKey -/
noncomputable def j_X3_setKey_45 (z0 : zV) (x1 : Int32) (x2 : Int32) : Option (Int32 × zV) :=
    (Option.bind (f_X3_remember z0) (fun z_46 => (pS z_46 0 6 x1 (fun z_54 => (pS z_54 0 7 x2 (fun z_62 => (Option.bind (f_X0_forgetGuesses z_62) (fun z_69 => (Option.bind (f_X0_numberOf z_69 (nI 97)) (fun v_78 => (some (v_78, z_69))))))))))))
noncomputable def f_X3_setKey (z0 : zV) (a0 : Int32) (a1 : Int32) : Option (Int32 × zV) :=
    (Option.bind (f_X3_isFactor z0 a0) (fun v_1 => (if v_1 = nI 0 then (some ((-2), z0)) else (if a1 < nI 0 then (some ((-2), z0)) else (if a1 < (nI 26) then (if (z0.1 0 6) = a0 then (if (z0.1 0 7) = a1 then (some ((-5), z0)) else (j_X3_setKey_45 z0 a0 a1)) else (j_X3_setKey_45 z0 a0 a1)) else (some ((-2), z0)))))))
/-! SoldLetters$Text.faultAsWords -/
noncomputable def j_X1_faultAsWords_36 (z0 : zV) (k_4 : Int32 → Int32 → Option (Int32)) (x1 : Int32) (x2 : Int32) : Option (Int32) :=
    (rA (z0.2.1 41) 60 x2 (fun v_41 => (if v_41 = (nI 44) then (if x1 < (nI 2) then (some x2) else (k_4 (nI 0) (x2 + nI 1))) else (some x2))))
noncomputable def l_X1_faultAsWords_4 (z0 : zV) : Nat → Int32 → Int32 → Option (Int32)
  | 0, _, _ => none
  | n_ + 1, x1, x2 =>
    (if (z0.1 40 1) ≤ x2 then (if (nI 2) ≤ x1 then (some (-1)) else (some (z0.1 40 1))) else (rA (z0.2.1 41) 60 x2 (fun v_17 => (Option.bind (f_X3_isLetter z0 v_17) (fun v_18 => (if v_18 = nI 0 then (j_X1_faultAsWords_36 z0 (l_X1_faultAsWords_4 z0 n_) x1 x2) else (if (nI 7) ≤ x1 then (j_X1_faultAsWords_36 z0 (l_X1_faultAsWords_4 z0 n_) x1 x2) else (l_X1_faultAsWords_4 z0 n_ (x1 + nI 1) (x2 + nI 1)))))))))
noncomputable def f_X1_faultAsWords (z0 : zV) : Option (Int32) :=
    (l_X1_faultAsWords_4 z0 1000 (nI 0) (nI 0))
/-! SoldLetters$Text.startsWord -/
noncomputable def f_X1_startsWord (z0 : zV) (a0 : Int32) : Option (Int32) :=
    (if a0 = nI 0 then (rB (nI 1) (some (nI 1))) else (rA (z0.2.1 41) 60 (a0 - (nI 1)) (fun v_11 => (if v_11 = (nI 44) then (rB (nI 1) (some (nI 1))) else (rB (nI 0) (some (nI 0)))))))
/-! SoldLetters$Text.wordLength -/
noncomputable def l_X1_wordLength_2 (z0 : zV) : Nat → Int32 → Int32 → Option (Int32)
  | 0, _, _ => none
  | n_ + 1, x1, x2 =>
    (if (z0.1 40 1) ≤ (x1 + x2) then (some x2) else (rA (z0.2.1 41) 60 (x1 + x2) (fun v_19 => (if v_19 = (nI 44) then (some x2) else (l_X1_wordLength_2 z0 n_ x1 (x2 + nI 1))))))
noncomputable def f_X1_wordLength (z0 : zV) (a0 : Int32) : Option (Int32) :=
    (l_X1_wordLength_2 z0 1000 a0 (nI 0))
/-! SoldLetters$State.listedLetter -/
noncomputable def f_X0_listedLetter (z0 : zV) (a0 : Int32) (a1 : Int32) : Option (Int32) :=
    (rA (z0.2.1 4) 84 ((a0 * (nI 7)) + a1) (fun v_10 => (some v_10)))
/-! SoldLetters.isSameWord -/
noncomputable def l_X3_isSameWord_27 (z0 : zV) : Nat → Int32 → Int32 → Int32 → Int32 → Option (Int32)
  | 0, _, _, _, _ => none
  | n_ + 1, x1, x2, x3, x4 =>
    (if x3 ≤ x4 then (rB (nI 1) (some (nI 1))) else (rA (z0.2.1 41) 60 (x1 + x4) (fun v_44 => (Option.bind (f_X0_listedLetter z0 x2 x4) (fun v_52 => (if v_44 = v_52 then (l_X3_isSameWord_27 z0 n_ x1 x2 x3 (x4 + nI 1)) else (rB (nI 0) (some (nI 0)))))))))
noncomputable def f_X3_isSameWord (z0 : zV) (a0 : Int32) (a1 : Int32) : Option (Int32) :=
    (Option.bind (f_X1_wordLength z0 a0) (fun v_5 => (rA (z0.2.1 5) 12 a1 (fun v_18 => (if v_5 = v_18 then (l_X3_isSameWord_27 z0 1000 a0 a1 v_5 (nI 0)) else (rB (nI 0) (some (nI 0))))))))
/-! SoldLetters.isListed -/
noncomputable def l_X3_isListed_2 (z0 : zV) : Nat → Int32 → Int32 → Option (Int32)
  | 0, _, _ => none
  | n_ + 1, x1, x2 =>
    (if (z0.1 0 5) ≤ x2 then (rB (nI 0) (some (nI 0))) else (Option.bind (f_X3_isSameWord z0 x1 x2) (fun v_16 => (if v_16 = nI 0 then (l_X3_isListed_2 z0 n_ x1 (x2 + nI 1)) else (rB (nI 1) (some (nI 1)))))))
noncomputable def f_X3_isListed (z0 : zV) (a0 : Int32) : Option (Int32) :=
    (l_X3_isListed_2 z0 1000 a0 (nI 0))
/-! SoldLetters$Text.isSameInText -/
noncomputable def l_X1_isSameInText_20 (z0 : zV) : Nat → Int32 → Int32 → Int32 → Int32 → Option (Int32)
  | 0, _, _, _, _ => none
  | n_ + 1, x1, x2, x3, x4 =>
    (if x3 ≤ x4 then (rB (nI 1) (some (nI 1))) else (rA (z0.2.1 41) 60 (x1 + x4) (fun v_34 => (rA (z0.2.1 41) 60 (x2 + x4) (fun v_43 => (if v_34 = v_43 then (l_X1_isSameInText_20 z0 n_ x1 x2 x3 (x4 + nI 1)) else (rB (nI 0) (some (nI 0)))))))))
noncomputable def f_X1_isSameInText (z0 : zV) (a0 : Int32) (a1 : Int32) : Option (Int32) :=
    (Option.bind (f_X1_wordLength z0 a0) (fun v_2 => (Option.bind (f_X1_wordLength z0 a1) (fun v_9 => (if v_2 = v_9 then (l_X1_isSameInText_20 z0 1000 a0 a1 v_2 (nI 0)) else (rB (nI 0) (some (nI 0))))))))
/-! SoldLetters$Text.isRepeated -/
noncomputable def l_X1_isRepeated_2 (z0 : zV) : Nat → Int32 → Int32 → Option (Int32)
  | 0, _, _ => none
  | n_ + 1, x1, x2 =>
    (if x1 ≤ x2 then (rB (nI 0) (some (nI 0))) else (Option.bind (f_X1_startsWord z0 x2) (fun v_9 => (if v_9 = nI 0 then (l_X1_isRepeated_2 z0 n_ x1 (x2 + nI 1)) else (Option.bind (f_X1_isSameInText z0 x2 x1) (fun v_18 => (if v_18 = nI 0 then (l_X1_isRepeated_2 z0 n_ x1 (x2 + nI 1)) else (rB (nI 1) (some (nI 1))))))))))
noncomputable def f_X1_isRepeated (z0 : zV) (a0 : Int32) : Option (Int32) :=
    (l_X1_isRepeated_2 z0 1000 a0 (nI 0))
/-! SoldLetters.newWordsInText -/
noncomputable def l_X3_newWordsInText_4 (z0 : zV) : Nat → Int32 → Int32 → Option (Int32)
  | 0, _, _ => none
  | n_ + 1, x1, x2 =>
    (if (z0.1 40 1) ≤ x2 then (some x1) else (Option.bind (f_X1_startsWord z0 x2) (fun v_20 => (if v_20 = nI 0 then (l_X3_newWordsInText_4 z0 n_ x1 (x2 + nI 1)) else (Option.bind (f_X3_isListed z0 x2) (fun v_28 => (if v_28 = nI 0 then (Option.bind (f_X1_isRepeated z0 x2) (fun v_39 => (if v_39 = nI 0 then (l_X3_newWordsInText_4 z0 n_ (x1 + nI 1) (x2 + nI 1)) else (l_X3_newWordsInText_4 z0 n_ x1 (x2 + nI 1))))) else (l_X3_newWordsInText_4 z0 n_ x1 (x2 + nI 1)))))))))
noncomputable def f_X3_newWordsInText (z0 : zV) : Option (Int32) :=
    (l_X3_newWordsInText_4 z0 1000 (nI 0) (nI 0))
/-! SoldLetters.appendToList -/
noncomputable def l_X3_appendToList_30 : Nat → zV → Int32 → Int32 → Int32 → Option (zV)
  | 0, _, _, _, _ => none
  | n_ + 1, z0, x1, x2, x3 =>
    (if x2 ≤ x3 then (wS z0 5 12 (z0.1 0 5) x2 (fun z_87 => (pS z_87 0 5 ((z_87.1 0 5) + (nI 1)) (fun z_98 => (some z_98))))) else (rA (z0.2.1 41) 60 (x1 + x3) (fun v_64 => (wS z0 4 84 (((z0.1 0 5) * (nI 7)) + x3) v_64 (fun z_65 => (l_X3_appendToList_30 n_ z_65 x1 x2 (x3 + nI 1)))))))
noncomputable def f_X3_appendToList (z0 : zV) (a0 : Int32) : Option (zV) :=
    (Option.bind (f_X1_wordLength z0 a0) (fun v_5 => (if (nI 12) ≤ (z0.1 0 5) then (some z0) else (if v_5 ≤ (nI 7) then (l_X3_appendToList_30 1000 z0 a0 v_5 (nI 0)) else (some z0)))))
/-! SoldLetters.addWords -/
noncomputable def l_X3_addWords_52 : Nat → zV → Int32 → Int32 → Option (Int32 × zV)
  | 0, _, _, _ => none
  | n_ + 1, z0, x2, x3 =>
    (if (z0.1 40 1) ≤ x3 then (some (x2, z0)) else (Option.bind (f_X1_startsWord z0 x3) (fun v_68 => (if v_68 = nI 0 then (l_X3_addWords_52 n_ z0 x2 (x3 + nI 1)) else (Option.bind (f_X3_isListed z0 x3) (fun v_76 => (if v_76 = nI 0 then (Option.bind (f_X3_appendToList z0 x3) (fun z_84 => (l_X3_addWords_52 n_ z_84 x2 (x3 + nI 1)))) else (l_X3_addWords_52 n_ z0 x2 (x3 + nI 1)))))))))
noncomputable def f_X3_addWords (z0 : zV) : Option (Int32 × zV) :=
    (Option.bind (f_X1_faultAsWords z0) (fun v_4 => (if v_4 < nI 0 then (Option.bind (f_X3_newWordsInText z0) (fun v_18 => (if ((z0.1 0 5) + v_18) ≤ (nI 12) then (if v_18 = nI 0 then (some ((-5), z0)) else (Option.bind (f_X3_remember z0) (fun z_47 => (l_X3_addWords_52 1000 z_47 v_18 (nI 0))))) else (some ((-3), z0))))) else (some (((-100) - v_4), z0)))))
/-! SoldLetters.isInList -/
noncomputable def f_X3_isInList (z0 : zV) (a0 : Int32) : Option (Int32) :=
    (if a0 < nI 0 then (rB (nI 0) (some (nI 0))) else (if (z0.1 0 5) ≤ a0 then (rB (nI 0) (some (nI 0))) else (rB (nI 1) (some (nI 1)))))
/-! SoldLetters$State.removeListed -/
noncomputable def l_X0_removeListed_12 : Nat → zV → Int32 → Option (zV)
  | 0, _, _ => none
  | n_ + 1, z0, x2 =>
    (if (z0.1 0 5) ≤ x2 then (some z0) else (cpS z0 4 84 4 84 ((x2 + (nI 1)) * (nI 7)) (x2 * (nI 7)) (nI 7) (fun z_40 => (rA (z_40.2.1 5) 12 (x2 + (nI 1)) (fun v_55 => (wS z_40 5 12 x2 v_55 (fun z_56 => (l_X0_removeListed_12 n_ z_56 (x2 + nI 1)))))))))
noncomputable def f_X0_removeListed (z0 : zV) (a0 : Int32) : Option (zV) :=
    (pS z0 0 5 ((z0.1 0 5) - (nI 1)) (fun z_7 => (l_X0_removeListed_12 1000 z_7 a0)))
/-! SoldLetters.dropWord -/
noncomputable def f_X3_dropWord (z0 : zV) (a0 : Int32) : Option (Int32 × zV) :=
    (Option.bind (f_X3_isInList z0 a0) (fun v_2 => (if v_2 = nI 0 then (some ((-1), z0)) else (Option.bind (f_X3_remember z0) (fun z_11 => (Option.bind (f_X0_removeListed z_11 a0) (fun z_19 => (some ((z_19.1 0 5), z_19)))))))))
/-! SoldLetters.isNumber -/
noncomputable def f_X3_isNumber (z0 : zV) (a0 : Int32) : Option (Int32) :=
    (if a0 < (nI 1) then (rB (nI 0) (some (nI 0))) else (if (nI 26) < a0 then (rB (nI 0) (some (nI 0))) else (rB (nI 1) (some (nI 1)))))
/-! SoldLetters$State.numberGuessedAs -/
noncomputable def l_X0_numberGuessedAs_8 (z0 : zV) : Nat → Int32 → Int32 → Option (Int32)
  | 0, _, _ => none
  | n_ + 1, x1, x2 =>
    (if (nI 26) < x2 then (some (nI 0)) else (rA (z0.2.1 2) 27 x2 (fun v_19 => (if v_19 = x1 then (some x2) else (l_X0_numberGuessedAs_8 z0 n_ x1 (x2 + nI 1))))))
noncomputable def f_X0_numberGuessedAs (z0 : zV) (a0 : Int32) : Option (Int32) :=
    (if a0 = nI 0 then (some (nI 0)) else (l_X0_numberGuessedAs_8 z0 1000 a0 (nI 1)))
/-! SoldLetters.isGuessOfAnother -/
noncomputable def f_X3_isGuessOfAnother (z0 : zV) (a0 : Int32) (a1 : Int32) : Option (Int32) :=
    (Option.bind (f_X0_numberGuessedAs z0 a0) (fun v_5 => (if v_5 = nI 0 then (rB (nI 0) (some (nI 0))) else (if v_5 = a1 then (rB (nI 0) (some (nI 0))) else (rB (nI 1) (some (nI 1)))))))
/-! SoldLetters$State.numberAt -/
noncomputable def f_X0_numberAt (z0 : zV) (a0 : Int32) : Option (Int32) :=
    (rA (z0.2.1 1) 49 a0 (fun v_5 => (if v_5 = nI 0 then (some (nI 0)) else (rA (z0.2.1 1) 49 a0 (fun v_19 => (Option.bind (f_X0_numberOf z0 v_19) (fun v_20 => (some v_20))))))))
/-! SoldLetters$State.guessAt -/
noncomputable def f_X0_guessAt (z0 : zV) (a0 : Int32) : Option (Int32) :=
    (Option.bind (f_X0_numberAt z0 a0) (fun v_2 => (Option.bind (f_X3_isNumber z0 v_2) (fun v_7 => (if v_7 = nI 0 then (some (nI 0)) else (rA (z0.2.1 2) 27 v_2 (fun v_18 => (some v_18))))))))
/-! SoldLetters$State.guessedCells -/
noncomputable def l_X0_guessedCells_4 (z0 : zV) : Nat → Int32 → Int32 → Option (Int32)
  | 0, _, _ => none
  | n_ + 1, x1, x2 =>
    (if (nI 49) ≤ x2 then (some x1) else (Option.bind (f_X0_guessAt z0 x2) (fun v_12 => (if v_12 = nI 0 then (l_X0_guessedCells_4 z0 n_ x1 (x2 + nI 1)) else (l_X0_guessedCells_4 z0 n_ (x1 + nI 1) (x2 + nI 1))))))
noncomputable def f_X0_guessedCells (z0 : zV) : Option (Int32) :=
    (l_X0_guessedCells_4 z0 1000 (nI 0) (nI 0))
/-! SoldLetters.guess -/
noncomputable def j_X3_guess_36 (z0 : zV) (x1 : Int32) (y0 : Int32) : Option (Int32 × zV) :=
    (rA (z0.2.1 3) 27 x1 (fun v_45 => (if v_45 = nI 0 then (Option.bind (f_X3_isGuessOfAnother z0 y0 x1) (fun v_52 => (if v_52 = nI 0 then (rA (z0.2.1 2) 27 x1 (fun v_69 => (if v_69 = y0 then (some ((-5), z0)) else (Option.bind (f_X3_remember z0) (fun z_78 => (wS z_78 2 27 x1 y0 (fun z_90 => (Option.bind (f_X0_guessedCells z_90) (fun v_95 => (some (v_95, z_90))))))))))) else (some ((-4), z0))))) else (some ((-4), z0)))))
noncomputable def j_X3_guess_25 (z0 : zV) (x1 : Int32) (x2 : Int32) : Option (Int32 × zV) :=
    (if x2 = (nI 46) then (j_X3_guess_36 z0 x1 (nI 0)) else (j_X3_guess_36 z0 x1 x2))
noncomputable def f_X3_guess (z0 : zV) (a0 : Int32) (a1 : Int32) : Option (Int32 × zV) :=
    (Option.bind (f_X3_isNumber z0 a0) (fun v_1 => (if v_1 = nI 0 then (some ((-1), z0)) else (if a1 = (nI 46) then (j_X3_guess_25 z0 a0 a1) else (Option.bind (f_X3_isLetter z0 a1) (fun v_16 => (if v_16 = nI 0 then (some ((-2), z0)) else (j_X3_guess_25 z0 a0 a1))))))))
/-! SoldLetters.isWord -/
noncomputable def f_X3_isWord (z0 : zV) (a0 : Int32) : Option (Int32) :=
    (if a0 < nI 0 then (rB (nI 0) (some (nI 0))) else (if (z0.1 36 3) ≤ a0 then (rB (nI 0) (some (nI 0))) else (rB (nI 1) (some (nI 1)))))
/-! SoldLetters$Words.cellOf -/
noncomputable def f_X2_cellOf (z0 : zV) (a0 : Int32) (a1 : Int32) : Option (Int32) :=
    (rA (z0.2.1 37) 28 a0 (fun v_5 => (rA (z0.2.1 39) 28 a0 (fun v_12 => (some (v_5 + (a1 * v_12)))))))
/-! SoldLetters.numberIn -/
noncomputable def f_X3_numberIn (z0 : zV) (a0 : Int32) (a1 : Int32) : Option (Int32) :=
    (Option.bind (f_X2_cellOf z0 a0 a1) (fun v_10 => (Option.bind (f_X0_numberAt z0 v_10) (fun v_13 => (some v_13)))))
/-! SoldLetters.isUnguessed -/
noncomputable def f_X3_isUnguessed (z0 : zV) (a0 : Int32) : Option (Int32) :=
    (Option.bind (f_X3_isNumber z0 a0) (fun v_1 => (if v_1 = nI 0 then (rB (nI 0) (some (nI 0))) else (rA (z0.2.1 2) 27 a0 (fun v_15 => (if v_15 = nI 0 then (rB (nI 1) (some (nI 1))) else (rB (nI 0) (some (nI 0)))))))))
/-! SoldLetters.mayStandFor -/
noncomputable def j_X3_mayStandFor_21 (z0 : zV) (y0 : Int32) (y1 : Int32) : Option (Int32) :=
    (if y0 = y1 then (rB (nI 1) (some (nI 1))) else (rB (nI 0) (some (nI 0))))
noncomputable def f_X3_mayStandFor (z0 : zV) (a0 : Int32) (a1 : Int32) : Option (Int32) :=
    (Option.bind (f_X0_numberGuessedAs z0 a0) (fun v_5 => (Option.bind (f_X3_isUnguessed z0 a1) (fun v_10 => (if v_10 = nI 0 then (j_X3_mayStandFor_21 z0 v_5 a1) else (j_X3_mayStandFor_21 z0 v_5 (nI 0)))))))
/-! SoldLetters.agreesWithEarlier -/
noncomputable def j_X3_agreesWithEarlier_85 (z0 : zV) (k_22 : Int32 → Int32 → Int32 → Int32 → Int32 → Option (Int32)) (x1 : Int32) (x2 : Int32) (x3 : Int32) (x4 : Int32) (x5 : Int32) (x6 : Int32) (y0 : Int32) : Option (Int32) :=
    (if x6 = y0 then (k_22 x1 x2 x3 x4 (x5 + nI 1)) else (rB (nI 0) (some (nI 0))))
noncomputable def j_X3_agreesWithEarlier_56 (z0 : zV) (k_22 : Int32 → Int32 → Int32 → Int32 → Int32 → Option (Int32)) (x1 : Int32) (x2 : Int32) (x3 : Int32) (x4 : Int32) (x5 : Int32) (y0 : Int32) : Option (Int32) :=
    (Option.bind (f_X0_listedLetter z0 x2 x5) (fun v_65 => (Option.bind (f_X0_listedLetter z0 x2 x3) (fun v_74 => (if v_65 = v_74 then (j_X3_agreesWithEarlier_85 z0 k_22 x1 x2 x3 x4 x5 y0 (nI 1)) else (j_X3_agreesWithEarlier_85 z0 k_22 x1 x2 x3 x4 x5 y0 (nI 0)))))))
noncomputable def l_X3_agreesWithEarlier_22 (z0 : zV) : Nat → Int32 → Int32 → Int32 → Int32 → Int32 → Option (Int32)
  | 0, _, _, _, _, _ => none
  | n_ + 1, x1, x2, x3, x4, x5 =>
    (if x3 ≤ x5 then (rB (nI 1) (some (nI 1))) else (Option.bind (f_X2_cellOf z0 x1 x5) (fun v_42 => (rA (z0.2.1 1) 49 v_42 (fun v_45 => (if v_45 = x4 then (j_X3_agreesWithEarlier_56 z0 (l_X3_agreesWithEarlier_22 z0 n_) x1 x2 x3 x4 x5 (nI 1)) else (j_X3_agreesWithEarlier_56 z0 (l_X3_agreesWithEarlier_22 z0 n_) x1 x2 x3 x4 x5 (nI 0))))))))
noncomputable def f_X3_agreesWithEarlier (z0 : zV) (a0 : Int32) (a1 : Int32) (a2 : Int32) : Option (Int32) :=
    (Option.bind (f_X2_cellOf z0 a0 a2) (fun v_13 => (rA (z0.2.1 1) 49 v_13 (fun v_16 => (l_X3_agreesWithEarlier_22 z0 1000 a0 a1 a2 v_16 (nI 0))))))
/-! SoldLetters.isFitting -/
noncomputable def l_X3_isFitting_28 (z0 : zV) : Nat → Int32 → Int32 → Int32 → Int32 → Option (Int32)
  | 0, _, _, _, _ => none
  | n_ + 1, x1, x2, x3, x4 =>
    (if x3 ≤ x4 then (rB (nI 1) (some (nI 1))) else (Option.bind (f_X0_listedLetter z0 x2 x4) (fun v_41 => (Option.bind (f_X3_numberIn z0 x1 x4) (fun v_53 => (Option.bind (f_X3_mayStandFor z0 v_41 v_53) (fun v_56 => (if v_56 = nI 0 then (rB (nI 0) (some (nI 0))) else (Option.bind (f_X3_agreesWithEarlier z0 x1 x2 x4) (fun v_67 => (if v_67 = nI 0 then (rB (nI 0) (some (nI 0))) else (l_X3_isFitting_28 z0 n_ x1 x2 x3 (x4 + nI 1)))))))))))))
noncomputable def f_X3_isFitting (z0 : zV) (a0 : Int32) (a1 : Int32) : Option (Int32) :=
    (rA (z0.2.1 38) 28 a0 (fun v_8 => (rA (z0.2.1 5) 12 a1 (fun v_19 => (if v_8 = v_19 then (l_X3_isFitting_28 z0 1000 a0 a1 v_8 (nI 0)) else (rB (nI 0) (some (nI 0))))))))
/-! SoldLetters.guessedCellsOf -/
noncomputable def l_X3_guessedCellsOf_4 (z0 : zV) : Nat → Int32 → Int32 → Int32 → Option (Int32)
  | 0, _, _, _ => none
  | n_ + 1, x1, x2, x3 =>
    (rA (z0.2.1 38) 28 x1 (fun v_13 => (if v_13 ≤ x3 then (some x2) else (Option.bind (f_X2_cellOf z0 x1 x3) (fun v_27 => (Option.bind (f_X0_guessAt z0 v_27) (fun v_30 => (if v_30 = nI 0 then (l_X3_guessedCellsOf_4 z0 n_ x1 x2 (x3 + nI 1)) else (l_X3_guessedCellsOf_4 z0 n_ x1 (x2 + nI 1) (x3 + nI 1))))))))))
noncomputable def f_X3_guessedCellsOf (z0 : zV) (a0 : Int32) : Option (Int32) :=
    (l_X3_guessedCellsOf_4 z0 1000 a0 (nI 0) (nI 0))
/-! SoldLetters.guessWord -/
noncomputable def l_X3_guessWord_59 : Nat → zV → Int32 → Int32 → Int32 → Int32 → Option (Int32 × zV)
  | 0, _, _, _, _, _ => none
  | n_ + 1, z0, x1, x2, x3, x4 =>
    (rA (z0.2.1 38) 28 x1 (fun v_69 => (if v_69 ≤ x4 then (some (x3, z0)) else (Option.bind (f_X3_numberIn z0 x1 x4) (fun v_77 => (Option.bind (f_X3_isUnguessed z0 v_77) (fun v_85 => (if v_85 = nI 0 then (l_X3_guessWord_59 n_ z0 x1 x2 x3 (x4 + nI 1)) else (Option.bind (f_X0_listedLetter z0 x2 x4) (fun v_107 => (wS z0 2 27 v_77 v_107 (fun z_110 => (l_X3_guessWord_59 n_ z_110 x1 x2 (x3 + nI 1) (x4 + nI 1))))))))))))))
noncomputable def f_X3_guessWord (z0 : zV) (a0 : Int32) (a1 : Int32) : Option (Int32 × zV) :=
    (Option.bind (f_X3_isWord z0 a0) (fun v_2 => (if v_2 = nI 0 then (some ((-1), z0)) else (Option.bind (f_X3_isInList z0 a1) (fun v_10 => (if v_10 = nI 0 then (some ((-1), z0)) else (Option.bind (f_X3_isFitting z0 a0 a1) (fun v_21 => (if v_21 = nI 0 then (some ((-4), z0)) else (Option.bind (f_X3_guessedCellsOf z0 a0) (fun v_32 => (rA (z0.2.1 38) 28 a0 (fun v_43 => (if v_32 = v_43 then (some ((-5), z0)) else (Option.bind (f_X3_remember z0) (fun z_51 => (l_X3_guessWord_59 1000 z_51 a0 a1 (nI 0) (nI 0))))))))))))))))))
/-! SoldLetters$State.cellsWith -/
noncomputable def l_X0_cellsWith_4 (z0 : zV) : Nat → Int32 → Int32 → Int32 → Option (Int32)
  | 0, _, _, _ => none
  | n_ + 1, x1, x2, x3 =>
    (if (nI 49) ≤ x3 then (some x2) else (Option.bind (f_X0_numberAt z0 x3) (fun v_12 => (if v_12 = x1 then (l_X0_cellsWith_4 z0 n_ x1 (x2 + nI 1) (x3 + nI 1)) else (l_X0_cellsWith_4 z0 n_ x1 x2 (x3 + nI 1))))))
noncomputable def f_X0_cellsWith (z0 : zV) (a0 : Int32) : Option (Int32) :=
    (l_X0_cellsWith_4 z0 1000 a0 (nI 0) (nI 0))
/-! SoldLetters$State.priceOf -/
noncomputable def f_X0_priceOf (z0 : zV) (a0 : Int32) : Option (Int32) :=
    (Option.bind (f_X0_cellsWith z0 a0) (fun v_5 => (some (if ((nI 1) + v_5) < (nI 9) then ((nI 1) + v_5) else (nI 9)))))
/-! SoldLetters$State.letterOf -/
noncomputable def l_X0_letterOf_3 (z0 : zV) : Nat → Int32 → Int32 → Option (Int32)
  | 0, _, _ => none
  | n_ + 1, x1, x2 =>
    (if (nI 122) < x2 then (some (nI 0)) else (Option.bind (f_X0_numberOf z0 x2) (fun v_11 => (if v_11 = x1 then (some x2) else (l_X0_letterOf_3 z0 n_ x1 (x2 + nI 1))))))
noncomputable def f_X0_letterOf (z0 : zV) (a0 : Int32) : Option (Int32) :=
    (l_X0_letterOf_3 z0 1000 a0 (nI 97))
/-! SoldLetters.buy -/
noncomputable def j_X3_buy_100 (z0 : zV) (x1 : Int32) (x2 : Int32) (x3 : Int32) : Option (Int32 × zV) :=
    (wS z0 2 27 x1 x3 (fun z_109 => (wS z_109 3 27 x1 (vp_nar .boolean (nI 1)) (fun z_119 => (pS z_119 0 8 ((z_119.1 0 8) - x2) (fun z_130 => (pS z_130 0 9 ((z_130.1 0 9) + (nI 1)) (fun z_143 => (some (x3, z_143))))))))))
noncomputable def f_X3_buy (z0 : zV) (a0 : Int32) : Option (Int32 × zV) :=
    (Option.bind (f_X3_isNumber z0 a0) (fun v_1 => (if v_1 = nI 0 then (some ((-1), z0)) else (Option.bind (f_X0_priceOf z0 a0) (fun v_14 => (rA (z0.2.1 3) 27 a0 (fun v_26 => (if v_26 = nI 0 then (if v_14 ≤ (z0.1 0 8) then (Option.bind (f_X0_cellsWith z0 a0) (fun v_49 => (if v_49 = nI 0 then (some ((-5), z0)) else (Option.bind (f_X3_remember z0) (fun z_59 => (Option.bind (f_X0_letterOf z_59 a0) (fun v_67 => (Option.bind (f_X0_numberGuessedAs z_59 v_67) (fun v_76 => (Option.bind (f_X3_isNumber z_59 v_76) (fun v_83 => (if v_83 = nI 0 then (j_X3_buy_100 z_59 a0 v_14 v_67) else (wS z_59 2 27 v_76 (nI 0) (fun z_99 => (j_X3_buy_100 z_99 a0 v_14 v_67))))))))))))))) else (some ((-4), z0))) else (some ((-4), z0))))))))))
/-! SoldLetters.check -/
noncomputable def l_X3_check_57 : Nat → zV → Int32 → Int32 → Int32 → Option (Int32 × zV)
  | 0, _, _, _, _ => none
  | n_ + 1, z0, x1, x2, x3 =>
    (rA (z0.2.1 38) 28 x1 (fun v_66 => (if v_66 ≤ x3 then (some (x2, z0)) else (Option.bind (f_X2_cellOf z0 x1 x3) (fun v_76 => (Option.bind (f_X0_guessAt z0 v_76) (fun v_87 => (if v_87 = nI 0 then (l_X3_check_57 n_ z0 x1 x2 (x3 + nI 1)) else (rA (z0.2.1 1) 49 v_76 (fun v_108 => (if v_87 = v_108 then (l_X3_check_57 n_ z0 x1 x2 (x3 + nI 1)) else (l_X3_check_57 n_ z0 x1 (x2 + nI 1) (x3 + nI 1)))))))))))))
noncomputable def f_X3_check (z0 : zV) (a0 : Int32) : Option (Int32 × zV) :=
    (Option.bind (f_X3_isWord z0 a0) (fun v_2 => (if v_2 = nI 0 then (some ((-1), z0)) else (if (z0.1 0 8) = nI 0 then (some ((-4), z0)) else (Option.bind (f_X3_remember z0) (fun z_24 => (pS z_24 0 8 ((z_24.1 0 8) - (nI 1)) (fun z_37 => (pS z_37 0 10 ((z_37.1 0 10) + (nI 1)) (fun z_50 => (l_X3_check_57 1000 z_50 a0 (nI 0) (nI 0))))))))))))
/-! SoldLetters.give -/
noncomputable def f_X3_give (z0 : zV) (a0 : Int32) : Option (Int32 × zV) :=
    (if a0 < (nI 1) then (some ((-2), z0)) else (if a0 ≤ (nI 99) then (if (z0.1 0 8) = (nI 999) then (some ((-5), z0)) else (Option.bind (f_X3_remember z0) (fun z_31 => (pS z_31 0 8 (if ((z_31.1 0 8) + a0) < (nI 999) then ((z_31.1 0 8) + a0) else (nI 999)) (fun z_53 => (some ((z_53.1 0 8), z_53))))))) else (some ((-2), z0))))
/-! SoldLetters$Text.append -/
noncomputable def f_X1_append (z0 : zV) (a0 : Int32) : Option (zV) :=
    (wS z0 41 60 (z0.1 40 1) a0 (fun z_9 => (pS z_9 40 1 ((z_9.1 40 1) + (nI 1)) (fun z_17 => (some z_17)))))
/-! SoldLetters.type -/
noncomputable def f_X3_type (z0 : zV) (a0 : Int32) : Option (Int32 × zV) :=
    (if (z0.1 40 1) < (nI 60) then (Option.bind (f_X1_append z0 a0) (fun z_20 => (some ((z_20.1 40 1), z_20)))) else (some ((-3), z0)))
/-! SoldLetters.clearText -/
noncomputable def f_X3_clearText (z0 : zV) : Option (Int32 × zV) :=
    (pS z0 40 1 (nI 0) (fun z_13 => (some ((z0.1 40 1), z_13))))
/-! SoldLetters.bringBack -/
noncomputable def f_X3_bringBack (z0 : zV) (q1 : Nat) : Option (zV) :=
    (gSt q1 (Option.bind (f_X0_copyFrom z0 0 q1) (fun z_5 => (Option.bind (f_X2_find z_5) (fun z_19 => (some z_19))))))
/-! SoldLetters.undo -/
noncomputable def f_X3_undo (z0 : zV) : Option (Int32 × zV) :=
    (if (z0.1 42 5) = nI 0 then (some ((-5), z0)) else (pS z0 42 5 ((z0.1 42 5) - (nI 1)) (fun z_17 => (rP z_17 (z_17.1 42 5) (fun q_29 => (Option.bind (f_X3_bringBack z_17 q_29) (fun z_30 => (some ((z_30.1 42 5), z_30)))))))))
/-! SoldLetters.keep -/
noncomputable def f_X3_keep (z0 : zV) : Option (Int32 × zV) :=
    (Option.bind (f_X0_copyFrom z0 30 0) (fun z_8 => (pS z_8 42 6 (nI 1) (fun z_13 => (some ((z_13.1 0 8), z_13))))))
/-! SoldLetters.restore -/
noncomputable def f_X3_restore (z0 : zV) : Option (Int32 × zV) :=
    (if (z0.1 42 6) = nI 0 then (some ((-5), z0)) else (Option.bind (f_X3_remember z0) (fun z_11 => (Option.bind (f_X3_bringBack z_11 30) (fun z_19 => (some ((z_19.1 0 8), z_19)))))))
/-! SoldLetters.orNone -/
noncomputable def f_X3_orNone (z0 : zV) (a0 : Int32) : Option (Int32) :=
    (if a0 = nI 0 then (some (-5)) else (some a0))
/-! SoldLetters$Words.isDown -/
noncomputable def f_X2_isDown (z0 : zV) (a0 : Int32) : Option (Int32) :=
    (rA (z0.2.1 39) 28 a0 (fun v_5 => (if v_5 = (nI 7) then (rB (nI 1) (some (nI 1))) else (rB (nI 0) (some (nI 0))))))
/-! SoldLetters$Words.hasCell -/
noncomputable def l_X2_hasCell_2 (z0 : zV) : Nat → Int32 → Int32 → Int32 → Option (Int32)
  | 0, _, _, _ => none
  | n_ + 1, x1, x2, x3 =>
    (rA (z0.2.1 38) 28 x1 (fun v_8 => (if v_8 ≤ x3 then (rB (nI 0) (some (nI 0))) else (Option.bind (f_X2_cellOf z0 x1 x3) (fun v_15 => (if v_15 = x2 then (rB (nI 1) (some (nI 1))) else (l_X2_hasCell_2 z0 n_ x1 x2 (x3 + nI 1))))))))
noncomputable def f_X2_hasCell (z0 : zV) (a0 : Int32) (a1 : Int32) : Option (Int32) :=
    (l_X2_hasCell_2 z0 1000 a0 a1 (nI 0))
/-! SoldLetters$Words.wordAt -/
noncomputable def l_X2_wordAt_2 (z0 : zV) : Nat → Int32 → Int32 → Int32 → Option (Int32)
  | 0, _, _, _ => none
  | n_ + 1, x1, x2, x3 =>
    (if (z0.1 36 3) ≤ x3 then (some (-5)) else (Option.bind (f_X2_isDown z0 x3) (fun v_12 => (if v_12 = x2 then (Option.bind (f_X2_hasCell z0 x3 x1) (fun v_22 => (if v_22 = nI 0 then (l_X2_wordAt_2 z0 n_ x1 x2 (x3 + nI 1)) else (some x3)))) else (l_X2_wordAt_2 z0 n_ x1 x2 (x3 + nI 1))))))
noncomputable def f_X2_wordAt (z0 : zV) (a0 : Int32) (a1 : Int32) : Option (Int32) :=
    (l_X2_wordAt_2 z0 1000 a0 a1 (nI 0))
/-! SoldLetters.cell -/
noncomputable def f_X3_cell (z0 : zV) (a0 : Int32) (a1 : Int32) (a2 : Int32) : Option (Int32) :=
    (Option.bind (f_X3_isInGrid z0 a0) (fun v_1 => (if v_1 = nI 0 then (some (-1)) else (Option.bind (f_X3_isInGrid z0 a1) (fun v_8 => (if v_8 = nI 0 then (some (-1)) else (if a2 = nI 0 then (Option.bind (f_X0_numberAt z0 ((a0 * (nI 7)) + a1)) (fun v_62 => (Option.bind (f_X3_orNone z0 v_62) (fun v_65 => (some v_65))))) else (if a2 = nI 1 then (Option.bind (f_X0_guessAt z0 ((a0 * (nI 7)) + a1)) (fun v_75 => (Option.bind (f_X3_orNone z0 v_75) (fun v_78 => (some v_78))))) else (if a2 = nI 2 then (Option.bind (f_X2_wordAt z0 ((a0 * (nI 7)) + a1) (nI 0)) (fun v_89 => (some v_89))) else (if a2 = nI 3 then (Option.bind (f_X2_wordAt z0 ((a0 * (nI 7)) + a1) (nI 1)) (fun v_100 => (some v_100))) else (some (-2))))))))))))
/-! SoldLetters.oneIf -/
noncomputable def f_X3_oneIf (z0 : zV) (a0 : Int32) : Option (Int32) :=
    (if a0 = nI 0 then (some (nI 0)) else (some (nI 1)))
/-! SoldLetters.firstPlaceOf -/
noncomputable def l_X3_firstPlaceOf_2 (z0 : zV) : Nat → Int32 → Int32 → Int32 → Option (Int32)
  | 0, _, _, _ => none
  | n_ + 1, x1, x2, x3 =>
    (rA (z0.2.1 38) 28 x2 (fun v_11 => (if v_11 ≤ x3 then (some x3) else (Option.bind (f_X3_numberIn z0 x2 x3) (fun v_18 => (if v_18 = x1 then (some x3) else (l_X3_firstPlaceOf_2 z0 n_ x1 x2 (x3 + nI 1))))))))
noncomputable def f_X3_firstPlaceOf (z0 : zV) (a0 : Int32) (a1 : Int32) : Option (Int32) :=
    (l_X3_firstPlaceOf_2 z0 1000 a0 a1 (nI 0))
/-! SoldLetters.hasNumber -/
noncomputable def f_X3_hasNumber (z0 : zV) (a0 : Int32) (a1 : Int32) : Option (Int32) :=
    (Option.bind (f_X3_firstPlaceOf z0 a1 a0) (fun v_3 => (rA (z0.2.1 38) 28 a0 (fun v_14 => (if v_14 ≤ v_3 then (rB (nI 0) (some (nI 0))) else (rB (nI 1) (some (nI 1))))))))
/-! SoldLetters.wordsWith -/
noncomputable def l_X3_wordsWith_4 (z0 : zV) : Nat → Int32 → Int32 → Int32 → Option (Int32)
  | 0, _, _, _ => none
  | n_ + 1, x1, x2, x3 =>
    (if (z0.1 36 3) ≤ x3 then (some x2) else (Option.bind (f_X3_hasNumber z0 x3 x1) (fun v_18 => (if v_18 = nI 0 then (l_X3_wordsWith_4 z0 n_ x1 x2 (x3 + nI 1)) else (l_X3_wordsWith_4 z0 n_ x1 (x2 + nI 1) (x3 + nI 1))))))
noncomputable def f_X3_wordsWith (z0 : zV) (a0 : Int32) : Option (Int32) :=
    (l_X3_wordsWith_4 z0 1000 a0 (nI 0) (nI 0))
/-! SoldLetters.number -/
noncomputable def f_X3_number (z0 : zV) (a0 : Int32) (a1 : Int32) : Option (Int32) :=
    (Option.bind (f_X3_isNumber z0 a0) (fun v_1 => (if v_1 = nI 0 then (some (-1)) else (if a1 = nI 0 then (Option.bind (f_X0_cellsWith z0 a0) (fun v_49 => (some v_49))) else (if a1 = nI 1 then (rA (z0.2.1 2) 27 a0 (fun v_61 => (Option.bind (f_X3_orNone z0 v_61) (fun v_62 => (some v_62))))) else (if a1 = nI 2 then (Option.bind (f_X0_priceOf z0 a0) (fun v_71 => (some v_71))) else (if a1 = nI 3 then (rA (z0.2.1 3) 27 a0 (fun v_83 => (Option.bind (f_X3_oneIf z0 v_83) (fun v_84 => (some v_84))))) else (if a1 = nI 4 then (Option.bind (f_X3_wordsWith z0 a0) (fun v_90 => (some v_90))) else (some (-2))))))))))
/-! SoldLetters.listedThatFit -/
noncomputable def l_X3_listedThatFit_4 (z0 : zV) : Nat → Int32 → Int32 → Int32 → Option (Int32)
  | 0, _, _, _ => none
  | n_ + 1, x1, x2, x3 =>
    (if (z0.1 0 5) ≤ x3 then (some x2) else (Option.bind (f_X3_isFitting z0 x1 x3) (fun v_18 => (if v_18 = nI 0 then (l_X3_listedThatFit_4 z0 n_ x1 x2 (x3 + nI 1)) else (l_X3_listedThatFit_4 z0 n_ x1 (x2 + nI 1) (x3 + nI 1))))))
noncomputable def f_X3_listedThatFit (z0 : zV) (a0 : Int32) : Option (Int32) :=
    (l_X3_listedThatFit_4 z0 1000 a0 (nI 0) (nI 0))
/-! SoldLetters.firstListedThatFits -/
noncomputable def l_X3_firstListedThatFits_2 (z0 : zV) : Nat → Int32 → Int32 → Option (Int32)
  | 0, _, _ => none
  | n_ + 1, x1, x2 =>
    (if (z0.1 0 5) ≤ x2 then (some (-5)) else (Option.bind (f_X3_isFitting z0 x1 x2) (fun v_16 => (if v_16 = nI 0 then (l_X3_firstListedThatFits_2 z0 n_ x1 (x2 + nI 1)) else (some x2)))))
noncomputable def f_X3_firstListedThatFits (z0 : zV) (a0 : Int32) : Option (Int32) :=
    (l_X3_firstListedThatFits_2 z0 1000 a0 (nI 0))
/-! SoldLetters.word -/
noncomputable def f_X3_word (z0 : zV) (a0 : Int32) (a1 : Int32) : Option (Int32) :=
    (Option.bind (f_X3_isWord z0 a0) (fun v_2 => (if v_2 = nI 0 then (some (-1)) else (if a1 = nI 0 then (rA (z0.2.1 37) 28 a0 (fun v_60 => (some (v_60 / (nI 7))))) else (if a1 = nI 1 then (rA (z0.2.1 37) 28 a0 (fun v_73 => (some (v_73 - v_73 / (nI 7) * (nI 7))))) else (if a1 = nI 2 then (rA (z0.2.1 38) 28 a0 (fun v_86 => (some v_86))) else (if a1 = nI 3 then (Option.bind (f_X2_isDown z0 a0) (fun v_93 => (Option.bind (f_X3_oneIf z0 v_93) (fun v_96 => (some v_96))))) else (if a1 = nI 4 then (Option.bind (f_X3_guessedCellsOf z0 a0) (fun v_102 => (some v_102))) else (if a1 = nI 5 then (Option.bind (f_X3_listedThatFit z0 a0) (fun v_108 => (some v_108))) else (if a1 = nI 6 then (Option.bind (f_X3_firstListedThatFits z0 a0) (fun v_114 => (some v_114))) else (some (-2))))))))))))
/-! SoldLetters.fits -/
noncomputable def f_X3_fits (z0 : zV) (a0 : Int32) (a1 : Int32) : Option (Int32) :=
    (Option.bind (f_X3_isWord z0 a0) (fun v_2 => (if v_2 = nI 0 then (some (-1)) else (Option.bind (f_X3_isInList z0 a1) (fun v_10 => (if v_10 = nI 0 then (some (-1)) else (Option.bind (f_X3_isFitting z0 a0 a1) (fun v_21 => (Option.bind (f_X3_oneIf z0 v_21) (fun v_24 => (some v_24)))))))))))
/-! SoldLetters.wordsThatFit -/
noncomputable def l_X3_wordsThatFit_4 (z0 : zV) : Nat → Int32 → Int32 → Int32 → Option (Int32)
  | 0, _, _, _ => none
  | n_ + 1, x1, x2, x3 =>
    (if (z0.1 36 3) ≤ x3 then (some x2) else (Option.bind (f_X3_isFitting z0 x3 x1) (fun v_18 => (if v_18 = nI 0 then (l_X3_wordsThatFit_4 z0 n_ x1 x2 (x3 + nI 1)) else (l_X3_wordsThatFit_4 z0 n_ x1 (x2 + nI 1) (x3 + nI 1))))))
noncomputable def f_X3_wordsThatFit (z0 : zV) (a0 : Int32) : Option (Int32) :=
    (l_X3_wordsThatFit_4 z0 1000 a0 (nI 0) (nI 0))
/-! SoldLetters.firstWordThatFits -/
noncomputable def l_X3_firstWordThatFits_2 (z0 : zV) : Nat → Int32 → Int32 → Option (Int32)
  | 0, _, _ => none
  | n_ + 1, x1, x2 =>
    (if (z0.1 36 3) ≤ x2 then (some (-5)) else (Option.bind (f_X3_isFitting z0 x2 x1) (fun v_16 => (if v_16 = nI 0 then (l_X3_firstWordThatFits_2 z0 n_ x1 (x2 + nI 1)) else (some x2)))))
noncomputable def f_X3_firstWordThatFits (z0 : zV) (a0 : Int32) : Option (Int32) :=
    (l_X3_firstWordThatFits_2 z0 1000 a0 (nI 0))
/-! SoldLetters.priceOfRest -/
noncomputable def l_X3_priceOfRest_4 (z0 : zV) : Nat → Int32 → Int32 → Int32 → Option (Int32)
  | 0, _, _, _ => none
  | n_ + 1, x1, x2, x3 =>
    (rA (z0.2.1 38) 28 x1 (fun v_13 => (if v_13 ≤ x3 then (some x2) else (Option.bind (f_X3_numberIn z0 x1 x3) (fun v_20 => (Option.bind (f_X3_isUnguessed z0 v_20) (fun v_28 => (if v_28 = nI 0 then (l_X3_priceOfRest_4 z0 n_ x1 x2 (x3 + nI 1)) else (Option.bind (f_X3_firstPlaceOf z0 v_20 x1) (fun v_38 => (if v_38 = x3 then (Option.bind (f_X0_priceOf z0 v_20) (fun v_52 => (l_X3_priceOfRest_4 z0 n_ x1 (x2 + v_52) (x3 + nI 1)))) else (l_X3_priceOfRest_4 z0 n_ x1 x2 (x3 + nI 1)))))))))))))
noncomputable def f_X3_priceOfRest (z0 : zV) (a0 : Int32) : Option (Int32) :=
    (l_X3_priceOfRest_4 z0 1000 a0 (nI 0) (nI 0))
/-! SoldLetters.listed -/
noncomputable def f_X3_listed (z0 : zV) (a0 : Int32) (a1 : Int32) : Option (Int32) :=
    (Option.bind (f_X3_isInList z0 a0) (fun v_2 => (if v_2 = nI 0 then (some (-1)) else (if a1 = nI 0 then (rA (z0.2.1 5) 12 a0 (fun v_44 => (some v_44))) else (if a1 = nI 1 then (Option.bind (f_X3_wordsThatFit z0 a0) (fun v_48 => (some v_48))) else (if a1 = nI 2 then (Option.bind (f_X3_firstWordThatFits z0 a0) (fun v_54 => (if v_54 = (-5) then (some (-5)) else (Option.bind (f_X3_priceOfRest z0 v_54) (fun v_71 => (some v_71)))))) else (some (-2))))))))
/-! SoldLetters.bitOf -/
noncomputable def f_X3_bitOf (z0 : zV) (a0 : Int32) : Option (Int32) :=
    (some ((nI 1) <<< ((a0 - (nI 97)) &&& 31)))
/-! SoldLetters.offeredLetters -/
noncomputable def l_X3_offeredLetters_28 (z0 : zV) : Nat → Int32 → Int32 → Int32 → Int32 → Option (Int32)
  | 0, _, _, _, _ => none
  | n_ + 1, x1, x3, x4, x5 =>
    (if (z0.1 0 5) ≤ x5 then (some x4) else (Option.bind (f_X3_isFitting z0 x1 x5) (fun v_44 => (if v_44 = nI 0 then (l_X3_offeredLetters_28 z0 n_ x1 x3 x4 (x5 + nI 1)) else (Option.bind (f_X0_listedLetter z0 x5 x3) (fun v_59 => (Option.bind (f_X3_bitOf z0 v_59) (fun v_62 => (l_X3_offeredLetters_28 z0 n_ x1 x3 (x4 ||| v_62) (x5 + nI 1))))))))))
noncomputable def f_X3_offeredLetters (z0 : zV) (a0 : Int32) (a1 : Int32) : Option (Int32) :=
    (Option.bind (f_X3_firstPlaceOf z0 a1 a0) (fun v_3 => (rA (z0.2.1 38) 28 a0 (fun v_16 => (if v_3 < v_16 then (l_X3_offeredLetters_28 z0 1000 a0 v_3 (nI 0) (nI 0)) else (some (nI 0)))))))
/-! SoldLetters.possibleLetters -/
noncomputable def l_X3_possibleLetters_39 (z0 : zV) : Nat → Int32 → Int32 → Int32 → Option (Int32)
  | 0, _, _, _ => none
  | n_ + 1, x1, x2, x3 =>
    (if (z0.1 36 3) ≤ x3 then (some x2) else (Option.bind (f_X3_offeredLetters z0 x3 x1) (fun v_53 => (if v_53 = nI 0 then (l_X3_possibleLetters_39 z0 n_ x1 x2 (x3 + nI 1)) else (l_X3_possibleLetters_39 z0 n_ x1 (x2 &&& v_53) (x3 + nI 1))))))
noncomputable def l_X3_possibleLetters_7 (z0 : zV) : Nat → Int32 → Int32 → Int32 → Option (Int32)
  | 0, _, _, _ => none
  | n_ + 1, x1, x2, x3 =>
    (if (nI 122) < x3 then (l_X3_possibleLetters_39 z0 1000 x1 x2 (nI 0)) else (Option.bind (f_X3_isGuessOfAnother z0 x3 x1) (fun v_16 => (if v_16 = nI 0 then (l_X3_possibleLetters_7 z0 n_ x1 x2 (x3 + nI 1)) else (Option.bind (f_X3_bitOf z0 x3) (fun v_24 => (l_X3_possibleLetters_7 z0 n_ x1 (x2 &&& (v_24 ^^^ (-1))) (x3 + nI 1))))))))
noncomputable def f_X3_possibleLetters (z0 : zV) (a0 : Int32) : Option (Int32) :=
    (l_X3_possibleLetters_7 z0 1000 a0 (nI 67108863) (nI 97))
/-! java/lang/Integer.bitCount -/
noncomputable def f_J6_bitCount_0f7a4 (z0 : zV) (a0 : Int32) : Option (Int32) :=
    (some ((((((((a0 - (((Int32.toUInt32 a0 >>> (Int32.toUInt32 (nI 1) &&& Int32.toUInt32 31)).toInt32) &&& (nI 1431655765))) &&& (nI 858993459)) + (((Int32.toUInt32 (a0 - (((Int32.toUInt32 a0 >>> (Int32.toUInt32 (nI 1) &&& Int32.toUInt32 31)).toInt32) &&& (nI 1431655765))) >>> (Int32.toUInt32 (nI 2) &&& Int32.toUInt32 31)).toInt32) &&& (nI 858993459))) + ((Int32.toUInt32 (((a0 - (((Int32.toUInt32 a0 >>> (Int32.toUInt32 (nI 1) &&& Int32.toUInt32 31)).toInt32) &&& (nI 1431655765))) &&& (nI 858993459)) + (((Int32.toUInt32 (a0 - (((Int32.toUInt32 a0 >>> (Int32.toUInt32 (nI 1) &&& Int32.toUInt32 31)).toInt32) &&& (nI 1431655765))) >>> (Int32.toUInt32 (nI 2) &&& Int32.toUInt32 31)).toInt32) &&& (nI 858993459))) >>> (Int32.toUInt32 (nI 4) &&& Int32.toUInt32 31)).toInt32)) &&& (nI 252645135)) + ((Int32.toUInt32 (((((a0 - (((Int32.toUInt32 a0 >>> (Int32.toUInt32 (nI 1) &&& Int32.toUInt32 31)).toInt32) &&& (nI 1431655765))) &&& (nI 858993459)) + (((Int32.toUInt32 (a0 - (((Int32.toUInt32 a0 >>> (Int32.toUInt32 (nI 1) &&& Int32.toUInt32 31)).toInt32) &&& (nI 1431655765))) >>> (Int32.toUInt32 (nI 2) &&& Int32.toUInt32 31)).toInt32) &&& (nI 858993459))) + ((Int32.toUInt32 (((a0 - (((Int32.toUInt32 a0 >>> (Int32.toUInt32 (nI 1) &&& Int32.toUInt32 31)).toInt32) &&& (nI 1431655765))) &&& (nI 858993459)) + (((Int32.toUInt32 (a0 - (((Int32.toUInt32 a0 >>> (Int32.toUInt32 (nI 1) &&& Int32.toUInt32 31)).toInt32) &&& (nI 1431655765))) >>> (Int32.toUInt32 (nI 2) &&& Int32.toUInt32 31)).toInt32) &&& (nI 858993459))) >>> (Int32.toUInt32 (nI 4) &&& Int32.toUInt32 31)).toInt32)) &&& (nI 252645135)) >>> (Int32.toUInt32 (nI 8) &&& Int32.toUInt32 31)).toInt32)) + ((Int32.toUInt32 ((((((a0 - (((Int32.toUInt32 a0 >>> (Int32.toUInt32 (nI 1) &&& Int32.toUInt32 31)).toInt32) &&& (nI 1431655765))) &&& (nI 858993459)) + (((Int32.toUInt32 (a0 - (((Int32.toUInt32 a0 >>> (Int32.toUInt32 (nI 1) &&& Int32.toUInt32 31)).toInt32) &&& (nI 1431655765))) >>> (Int32.toUInt32 (nI 2) &&& Int32.toUInt32 31)).toInt32) &&& (nI 858993459))) + ((Int32.toUInt32 (((a0 - (((Int32.toUInt32 a0 >>> (Int32.toUInt32 (nI 1) &&& Int32.toUInt32 31)).toInt32) &&& (nI 1431655765))) &&& (nI 858993459)) + (((Int32.toUInt32 (a0 - (((Int32.toUInt32 a0 >>> (Int32.toUInt32 (nI 1) &&& Int32.toUInt32 31)).toInt32) &&& (nI 1431655765))) >>> (Int32.toUInt32 (nI 2) &&& Int32.toUInt32 31)).toInt32) &&& (nI 858993459))) >>> (Int32.toUInt32 (nI 4) &&& Int32.toUInt32 31)).toInt32)) &&& (nI 252645135)) + ((Int32.toUInt32 (((((a0 - (((Int32.toUInt32 a0 >>> (Int32.toUInt32 (nI 1) &&& Int32.toUInt32 31)).toInt32) &&& (nI 1431655765))) &&& (nI 858993459)) + (((Int32.toUInt32 (a0 - (((Int32.toUInt32 a0 >>> (Int32.toUInt32 (nI 1) &&& Int32.toUInt32 31)).toInt32) &&& (nI 1431655765))) >>> (Int32.toUInt32 (nI 2) &&& Int32.toUInt32 31)).toInt32) &&& (nI 858993459))) + ((Int32.toUInt32 (((a0 - (((Int32.toUInt32 a0 >>> (Int32.toUInt32 (nI 1) &&& Int32.toUInt32 31)).toInt32) &&& (nI 1431655765))) &&& (nI 858993459)) + (((Int32.toUInt32 (a0 - (((Int32.toUInt32 a0 >>> (Int32.toUInt32 (nI 1) &&& Int32.toUInt32 31)).toInt32) &&& (nI 1431655765))) >>> (Int32.toUInt32 (nI 2) &&& Int32.toUInt32 31)).toInt32) &&& (nI 858993459))) >>> (Int32.toUInt32 (nI 4) &&& Int32.toUInt32 31)).toInt32)) &&& (nI 252645135)) >>> (Int32.toUInt32 (nI 8) &&& Int32.toUInt32 31)).toInt32)) >>> (Int32.toUInt32 (nI 16) &&& Int32.toUInt32 31)).toInt32)) &&& (nI 63)))
/-! SoldLetters.lowestLetter -/
noncomputable def l_X3_lowestLetter_3 (z0 : zV) : Nat → Int32 → Int32 → Option (Int32)
  | 0, _, _ => none
  | n_ + 1, x0, x1 =>
    (if (nI 122) < x1 then (some (-5)) else (Option.bind (f_X3_bitOf z0 x1) (fun v_11 => (if (x0 &&& v_11) = nI 0 then (l_X3_lowestLetter_3 z0 n_ x0 (x1 + nI 1)) else (some x1)))))
noncomputable def f_X3_lowestLetter (z0 : zV) (a0 : Int32) : Option (Int32) :=
    (l_X3_lowestLetter_3 z0 1000 a0 (nI 97))
/-! SoldLetters.could -/
noncomputable def f_X3_could (z0 : zV) (a0 : Int32) (a1 : Int32) : Option (Int32) :=
    (Option.bind (f_X3_isNumber z0 a0) (fun v_1 => (if v_1 = nI 0 then (some (-1)) else (if a1 < nI 0 then (some (-2)) else (if a1 ≤ (nI 1) then (rA (z0.2.1 2) 27 a0 (fun v_29 => (if v_29 = nI 0 then (Option.bind (f_X0_cellsWith z0 a0) (fun v_38 => (if v_38 = nI 0 then (some (-5)) else (Option.bind (f_X3_possibleLetters z0 a0) (fun v_49 => (if a1 = nI 0 then (Option.bind (f_J6_bitCount_0f7a4 z0 v_49) (fun v_58 => (some v_58))) else (Option.bind (f_X3_lowestLetter z0 v_49) (fun v_65 => (some v_65))))))))) else (some (-5))))) else (some (-2)))))))
/-! SoldLetters$State.cellsWithLetters -/
noncomputable def f_X0_cellsWithLetters (z0 : zV) : Option (Int32) :=
    (Option.bind (f_X0_cellsWith z0 (nI 0)) (fun v_4 => (some ((nI 49) - v_4))))
/-! SoldLetters$State.numbersInGrid -/
noncomputable def l_X0_numbersInGrid_4 (z0 : zV) : Nat → Int32 → Int32 → Option (Int32)
  | 0, _, _ => none
  | n_ + 1, x1, x2 =>
    (if (nI 26) < x2 then (some x1) else (Option.bind (f_X0_cellsWith z0 x2) (fun v_12 => (if v_12 ≤ nI 0 then (l_X0_numbersInGrid_4 z0 n_ x1 (x2 + nI 1)) else (l_X0_numbersInGrid_4 z0 n_ (x1 + nI 1) (x2 + nI 1))))))
noncomputable def f_X0_numbersInGrid (z0 : zV) : Option (Int32) :=
    (l_X0_numbersInGrid_4 z0 1000 (nI 0) (nI 1))
/-! SoldLetters$State.guessedNumbersInGrid -/
noncomputable def l_X0_guessedNumbersInGrid_4 (z0 : zV) : Nat → Int32 → Int32 → Option (Int32)
  | 0, _, _ => none
  | n_ + 1, x1, x2 =>
    (if (nI 26) < x2 then (some x1) else (rA (z0.2.1 2) 27 x2 (fun v_15 => (if v_15 = nI 0 then (l_X0_guessedNumbersInGrid_4 z0 n_ x1 (x2 + nI 1)) else (Option.bind (f_X0_cellsWith z0 x2) (fun v_21 => (if v_21 ≤ nI 0 then (l_X0_guessedNumbersInGrid_4 z0 n_ x1 (x2 + nI 1)) else (l_X0_guessedNumbersInGrid_4 z0 n_ (x1 + nI 1) (x2 + nI 1)))))))))
noncomputable def f_X0_guessedNumbersInGrid (z0 : zV) : Option (Int32) :=
    (l_X0_guessedNumbersInGrid_4 z0 1000 (nI 0) (nI 1))
/-! SoldLetters$State.isSolved -/
noncomputable def l_X0_isSolved_2 (z0 : zV) : Nat → Int32 → Option (Int32)
  | 0, _ => none
  | n_ + 1, x1 =>
    (if (nI 49) ≤ x1 then (Option.bind (f_X0_cellsWithLetters z0) (fun v_31 => (if v_31 ≤ nI 0 then (rB (nI 0) (some (nI 0))) else (rB (nI 1) (some (nI 1)))))) else (Option.bind (f_X0_guessAt z0 x1) (fun v_10 => (rA (z0.2.1 1) 49 x1 (fun v_18 => (if v_10 = v_18 then (l_X0_isSolved_2 z0 n_ (x1 + nI 1)) else (rB (nI 0) (some (nI 0)))))))))
noncomputable def f_X0_isSolved (z0 : zV) : Option (Int32) :=
    (l_X0_isSolved_2 z0 1000 (nI 0))
/-! SoldLetters.count -/
noncomputable def f_X3_count (z0 : zV) (a0 : Int32) : Option (Int32) :=
    (if a0 = nI 0 then (Option.bind (f_X0_cellsWithLetters z0) (fun v_76 => (some v_76))) else (if a0 = nI 1 then (some (z0.1 36 3)) else (if a0 = nI 2 then (some (z0.1 0 5)) else (if a0 = nI 3 then (some (z0.1 0 8)) else (if a0 = nI 4 then (Option.bind (f_X0_numbersInGrid z0) (fun v_108 => (some v_108))) else (if a0 = nI 5 then (Option.bind (f_X0_guessedNumbersInGrid z0) (fun v_116 => (some v_116))) else (if a0 = nI 6 then (Option.bind (f_X0_guessedCells z0) (fun v_124 => (some v_124))) else (if a0 = nI 7 then (Option.bind (f_X0_isSolved z0) (fun v_132 => (Option.bind (f_X3_oneIf z0 v_132) (fun v_135 => (some v_135))))) else (if a0 = nI 8 then (some (z0.1 0 9)) else (if a0 = nI 9 then (some (z0.1 0 10)) else (if a0 = nI 10 then (some (z0.1 0 6)) else (if a0 = nI 11 then (some (z0.1 0 7)) else (if a0 = nI 12 then (some (z0.1 42 5)) else (if a0 = nI 13 then (some (z0.1 40 1)) else (some (-2))))))))))))))))
/-! SoldLettersModel.in -/
noncomputable def f_X4_in (z0 : zV) (a0 : Int64) (a1 : Int64) (a2 : Int64) : Option (Int32) :=
    (if (lg_cmp a0 a1) < nI 0 then (rB (nI 0) (some (nI 0))) else (if nI 0 < (lg_cmp a0 a2) then (rB (nI 0) (some (nI 0))) else (rB (nI 1) (some (nI 1)))))
/-! SoldLettersModel.forgets -/
noncomputable def l_X4_forgets_2 : Nat → zV → Int32 → Option (zV)
  | 0, _, _ => none
  | n_ + 1, z0, x1 =>
    (if (nI 26) < x1 then (some z0) else (wS z0 1 205 ((nI 51) + x1) (-1) (fun z_17 => (wS z_17 1 205 ((nI 78) + x1) (nI 0) (fun z_27 => (l_X4_forgets_2 n_ z_27 (x1 + nI 1)))))))
noncomputable def f_X4_forgets (z0 : zV) : Option (zV) :=
    (l_X4_forgets_2 1000 z0 (nI 0))
/-! SoldLettersModel.remember -/
noncomputable def l_X4_remember_2 : Nat → zV → Int32 → Option (zV)
  | 0, _, _ => none
  | n_ + 1, z0, x1 =>
    (if (nI 205) ≤ x1 then (some z0) else (rA (z0.2.1 1) 205 x1 (fun v_19 => (wS z0 2 205 x1 v_19 (fun z_20 => (l_X4_remember_2 n_ z_20 (x1 + nI 1)))))))
noncomputable def f_X4_remember (z0 : zV) : Option (zV) :=
    (l_X4_remember_2 1000 z0 (nI 0))
/-! SoldLettersModel.acted -/
noncomputable def l_X4_acted_51 : Nat → zV → Int32 → Int32 → Option (Int32 × zV)
  | 0, _, _, _ => none
  | n_ + 1, z0, x1, x2 =>
    (if (nI 205) ≤ x2 then (pS z0 0 3 ((z0.1 0 3) + (nI 1)) (fun z_92 => (some (x1, z_92)))) else (rA (z0.2.1 2) 205 x2 (fun v_77 => (wS z0 3 820 (((nI 205) * (z0.1 0 3)) + x2) v_77 (fun z_78 => (l_X4_acted_51 n_ z_78 x1 (x2 + nI 1)))))))
noncomputable def l_X4_acted_10 (k_51 : zV → Int32 → Int32 → Option (Int32 × zV)) : Nat → zV → Int32 → Int32 → Option (Int32 × zV)
  | 0, _, _, _ => none
  | n_ + 1, z0, x1, x2 =>
    (if (nI 615) ≤ x2 then (pS z0 0 3 ((z0.1 0 3) - (nI 1)) (fun z_46 => (k_51 z_46 x1 (nI 0)))) else (rA (z0.2.1 3) 820 (x2 + (nI 205)) (fun v_31 => (wS z0 3 820 x2 v_31 (fun z_32 => (l_X4_acted_10 k_51 n_ z_32 x1 (x2 + nI 1)))))))
noncomputable def f_X4_acted (z0 : zV) (a0 : Int32) : Option (Int32 × zV) :=
    (if (z0.1 0 3) = (nI 4) then (l_X4_acted_10 (l_X4_acted_51 1000) 1000 z0 a0 (nI 0)) else (l_X4_acted_51 1000 z0 a0 (nI 0)))
/-! SoldLettersModel.isNumber -/
noncomputable def f_X4_isNumber (z0 : zV) (a0 : Int32) : Option (Int32) :=
    (Option.bind (f_X4_in z0 (Int32.toInt64 a0) (lN 1) (lN 26)) (fun v_6 => (rB v_6 (some v_6))))
/-! SoldLettersModel.numberOf -/
noncomputable def f_X4_numberOf (z0 : zV) (a0 : Int32) : Option (Int32) :=
    (rA (z0.2.1 1) 205 (nI 49) (fun v_6 => (rA (z0.2.1 1) 205 (nI 50) (fun v_15 => (some ((((v_6 * a0) + v_15) - ((v_6 * a0) + v_15) / (nI 26) * (nI 26)) + (nI 1)))))))
/-! SoldLettersModel.letterOf -/
noncomputable def l_X4_letterOf_2 (z0 : zV) : Nat → Int32 → Int32 → Option (Int32)
  | 0, _, _ => none
  | n_ + 1, x1, x2 =>
    (Option.bind (f_X4_numberOf z0 x2) (fun v_4 => (if v_4 = x1 then (some x2) else (l_X4_letterOf_2 z0 n_ x1 (x2 + nI 1)))))
noncomputable def f_X4_letterOf (z0 : zV) (a0 : Int32) : Option (Int32) :=
    (l_X4_letterOf_2 z0 1000 a0 (nI 0))
/-! SoldLettersModel.numberAt -/
noncomputable def f_X4_numberAt (z0 : zV) (a0 : Int32) : Option (Int32) :=
    (rA (z0.2.1 1) 205 ((nI 0) + a0) (fun v_7 => (if v_7 = (-1) then (some (-5)) else (rA (z0.2.1 1) 205 ((nI 0) + a0) (fun v_25 => (Option.bind (f_X4_numberOf z0 v_25) (fun v_26 => (some v_26))))))))
/-! SoldLettersModel.guessAt -/
noncomputable def f_X4_guessAt (z0 : zV) (a0 : Int32) : Option (Int32) :=
    (rA (z0.2.1 1) 205 ((nI 0) + a0) (fun v_7 => (if v_7 = (-1) then (some (-1)) else (Option.bind (f_X4_numberAt z0 a0) (fun v_24 => (rA (z0.2.1 1) 205 ((nI 51) + v_24) (fun v_28 => (some v_28))))))))
/-! SoldLettersModel.cellsWith -/
noncomputable def l_X4_cellsWith_4 (z0 : zV) : Nat → Int32 → Int32 → Int32 → Option (Int32)
  | 0, _, _, _ => none
  | n_ + 1, x1, x2, x3 =>
    (if (nI 49) ≤ x3 then (some x2) else (Option.bind (f_X4_numberAt z0 x3) (fun v_13 => (if v_13 = x1 then (l_X4_cellsWith_4 z0 n_ x1 (x2 + (nI 1)) (x3 + nI 1)) else (l_X4_cellsWith_4 z0 n_ x1 (x2 + (nI 0)) (x3 + nI 1))))))
noncomputable def f_X4_cellsWith (z0 : zV) (a0 : Int32) : Option (Int32) :=
    (l_X4_cellsWith_4 z0 1000 a0 (nI 0) (nI 0))
/-! SoldLettersModel.priceOf -/
noncomputable def f_X4_priceOf (z0 : zV) (a0 : Int32) : Option (Int32) :=
    (Option.bind (f_X4_cellsWith z0 a0) (fun v_3 => (if (nI 9) ≤ ((nI 1) + v_3) then (some (nI 9)) else (some ((nI 1) + v_3)))))
/-! SoldLettersModel.isGuessOfAnother -/
noncomputable def l_X4_isGuessOfAnother_5 (z0 : zV) : Nat → Int32 → Int32 → Int32 → Int32 → Option (Int32)
  | 0, _, _, _, _ => none
  | n_ + 1, x1, x2, x3, x4 =>
    (if (nI 26) < x4 then (rB x3 (some x3)) else (if x3 = nI 0 then (if x4 = x2 then (l_X4_isGuessOfAnother_5 z0 n_ x1 x2 (nI 0) (x4 + nI 1)) else (rA (z0.2.1 1) 205 ((nI 51) + x4) (fun v_31 => (if v_31 = x1 then (l_X4_isGuessOfAnother_5 z0 n_ x1 x2 (nI 1) (x4 + nI 1)) else (l_X4_isGuessOfAnother_5 z0 n_ x1 x2 (nI 0) (x4 + nI 1)))))) else (l_X4_isGuessOfAnother_5 z0 n_ x1 x2 (nI 1) (x4 + nI 1))))
noncomputable def f_X4_isGuessOfAnother (z0 : zV) (a0 : Int32) (a1 : Int32) : Option (Int32) :=
    (l_X4_isGuessOfAnother_5 z0 1000 a0 a1 (nI 0) (nI 1))
/-! SoldLettersModel.coded -/
noncomputable def f_X4_coded (z0 : zV) (a0 : Int32) : Option (Int32) :=
    (if a0 = (-1) then (some (-5)) else (some ((nI 97) + a0)))
/-! SoldLettersModel.findsInLine -/
noncomputable def j_X4_findsInLine_42 (k_5 : zV → Int32 → Int32 → Int32 → Int32 → Option (zV)) (z0 : zV) (x1 : Int32) (x2 : Int32) (x3 : Int32) (x4 : Int32) : Option (zV) :=
    (if x3 ≤ (nI 1) then (k_5 z0 x1 x2 (nI 0) (x4 + nI 1)) else (wS z0 5 42 (z0.1 0 9) (x1 + (x2 * (x4 - x3))) (fun z_63 => (wS z_63 6 42 (z_63.1 0 9) x3 (fun z_73 => (wS z_73 7 42 (z_73.1 0 9) x2 (fun z_83 => (pS z_83 0 9 ((z_83.1 0 9) + (nI 1)) (fun z_91 => (k_5 z_91 x1 x2 (nI 0) (x4 + nI 1)))))))))))
noncomputable def l_X4_findsInLine_5 : Nat → zV → Int32 → Int32 → Int32 → Int32 → Option (zV)
  | 0, _, _, _, _, _ => none
  | n_ + 1, z0, x1, x2, x3, x4 =>
    (if (nI 7) < x4 then (some z0) else (if (nI 7) ≤ x4 then (j_X4_findsInLine_42 (l_X4_findsInLine_5 n_) z0 x1 x2 x3 x4) else (rA (z0.2.1 1) 205 (((nI 0) + x1) + (x2 * x4)) (fun v_31 => (if v_31 = (-1) then (j_X4_findsInLine_42 (l_X4_findsInLine_5 n_) z0 x1 x2 x3 x4) else (l_X4_findsInLine_5 n_ z0 x1 x2 (x3 + nI 1) (x4 + nI 1)))))))
noncomputable def f_X4_findsInLine (z0 : zV) (a0 : Int32) (a1 : Int32) : Option (zV) :=
    (l_X4_findsInLine_5 1000 z0 a0 a1 (nI 0) (nI 0))
/-! SoldLettersModel.findsWords -/
noncomputable def l_X4_findsWords_30 : Nat → zV → Int32 → Option (zV)
  | 0, _, _ => none
  | n_ + 1, z0, x1 =>
    (if (nI 7) ≤ x1 then (some z0) else (Option.bind (f_X4_findsInLine z0 x1 (nI 7)) (fun z_40 => (l_X4_findsWords_30 n_ z_40 (x1 + nI 1)))))
noncomputable def l_X4_findsWords_7 : Nat → zV → Int32 → Option (zV)
  | 0, _, _ => none
  | n_ + 1, z0, x1 =>
    (if (nI 7) ≤ x1 then (l_X4_findsWords_30 1000 z0 (nI 0)) else (Option.bind (f_X4_findsInLine z0 ((nI 7) * x1) (nI 1)) (fun z_19 => (l_X4_findsWords_7 n_ z_19 (x1 + nI 1)))))
noncomputable def f_X4_findsWords (z0 : zV) : Option (zV) :=
    (pS z0 0 9 (nI 0) (fun z_2 => (l_X4_findsWords_7 1000 z_2 (nI 0))))
/-! SoldLettersModel.isWord -/
noncomputable def f_X4_isWord (z0 : zV) (a0 : Int32) : Option (Int32 × zV) :=
    (Option.bind (f_X4_findsWords z0) (fun z_1 => (Option.bind (f_X4_in z_1 (Int32.toInt64 a0) (lN 0) ((Int32.toInt64 (z_1.1 0 9)) - (lN 1))) (fun v_14 => (rB v_14 (some (v_14, z_1)))))))
/-! SoldLettersModel.cellOf -/
noncomputable def f_X4_cellOf (z0 : zV) (a0 : Int32) (a1 : Int32) : Option (Int32) :=
    (rA (z0.2.1 5) 42 a0 (fun v_5 => (rA (z0.2.1 7) 42 a0 (fun v_11 => (some (v_5 + (v_11 * a1)))))))
/-! SoldLettersModel.hasNumber -/
noncomputable def l_X4_hasNumber_5 (z0 : zV) : Nat → Int32 → Int32 → Int32 → Int32 → Option (Int32)
  | 0, _, _, _, _ => none
  | n_ + 1, x1, x2, x3, x4 =>
    (rA (z0.2.1 6) 42 x1 (fun v_12 => (if v_12 ≤ x4 then (rB x3 (some x3)) else (if x3 = nI 0 then (Option.bind (f_X4_cellOf z0 x1 x4) (fun v_25 => (Option.bind (f_X4_numberAt z0 v_25) (fun v_28 => (if v_28 = x2 then (l_X4_hasNumber_5 z0 n_ x1 x2 (nI 1) (x4 + nI 1)) else (l_X4_hasNumber_5 z0 n_ x1 x2 (nI 0) (x4 + nI 1))))))) else (l_X4_hasNumber_5 z0 n_ x1 x2 (nI 1) (x4 + nI 1))))))
noncomputable def f_X4_hasNumber (z0 : zV) (a0 : Int32) (a1 : Int32) : Option (Int32) :=
    (l_X4_hasNumber_5 z0 1000 a0 a1 (nI 0) (nI 0))
/-! SoldLettersModel.wordsWith -/
noncomputable def l_X4_wordsWith_8 : Nat → zV → Int32 → Int32 → Int32 → Option (Int32 × zV)
  | 0, _, _, _, _ => none
  | n_ + 1, z0, x1, x2, x3 =>
    (if (z0.1 0 9) ≤ x3 then (some (x2, z0)) else (Option.bind (f_X4_hasNumber z0 x3 x1) (fun v_20 => (if v_20 = nI 0 then (l_X4_wordsWith_8 n_ z0 x1 (x2 + (nI 0)) (x3 + nI 1)) else (l_X4_wordsWith_8 n_ z0 x1 (x2 + (nI 1)) (x3 + nI 1))))))
noncomputable def f_X4_wordsWith (z0 : zV) (a0 : Int32) : Option (Int32 × zV) :=
    (Option.bind (f_X4_findsWords z0) (fun z_1 => (l_X4_wordsWith_8 1000 z_1 a0 (nI 0) (nI 0))))
/-! SoldLettersModel.wordAt -/
noncomputable def l_X4_wordAt_17 (k_6 : zV → Int32 → Int32 → Int32 → Option (Int32 × zV)) : Nat → zV → Int32 → Int32 → Int32 → Int32 → Option (Int32 × zV)
  | 0, _, _, _, _, _ => none
  | n_ + 1, z0, x1, x2, x3, x4 =>
    (rA (z0.2.1 6) 42 x3 (fun v_24 => (if v_24 ≤ x4 then (k_6 z0 x1 x2 (x3 + nI 1)) else (rA (z0.2.1 7) 42 x3 (fun v_33 => (if v_33 = x2 then (Option.bind (f_X4_cellOf z0 x3 x4) (fun v_42 => (if v_42 = x1 then (some (x3, z0)) else (l_X4_wordAt_17 k_6 n_ z0 x1 x2 x3 (x4 + nI 1))))) else (l_X4_wordAt_17 k_6 n_ z0 x1 x2 x3 (x4 + nI 1))))))))
noncomputable def l_X4_wordAt_6 : Nat → zV → Int32 → Int32 → Int32 → Option (Int32 × zV)
  | 0, _, _, _, _ => none
  | n_ + 1, z0, x1, x2, x3 =>
    (if (z0.1 0 9) ≤ x3 then (some ((-5), z0)) else (l_X4_wordAt_17 (l_X4_wordAt_6 n_) 1000 z0 x1 x2 x3 (nI 0)))
noncomputable def f_X4_wordAt (z0 : zV) (a0 : Int32) (a1 : Int32) : Option (Int32 × zV) :=
    (Option.bind (f_X4_findsWords z0) (fun z_1 => (l_X4_wordAt_6 1000 z_1 a0 a1 (nI 0))))
/-! SoldLettersModel.isListed -/
noncomputable def f_X4_isListed (z0 : zV) (a0 : Int32) : Option (Int32) :=
    (rA (z0.2.1 1) 205 (nI 106) (fun v_9 => (Option.bind (f_X4_in z0 (Int32.toInt64 a0) (lN 0) ((Int32.toInt64 v_9) - (lN 1))) (fun v_13 => (rB v_13 (some v_13))))))
/-! SoldLettersModel.sizeOf -/
noncomputable def f_X4_sizeOf (z0 : zV) (a0 : Int32) : Option (Int32) :=
    (rA (z0.2.1 1) 205 ((nI 109) + ((nI 8) * a0)) (fun v_11 => (some v_11)))
/-! SoldLettersModel.letterOfListed -/
noncomputable def f_X4_letterOfListed (z0 : zV) (a0 : Int32) (a1 : Int32) : Option (Int32) :=
    (rA (z0.2.1 1) 205 ((((nI 109) + ((nI 8) * a0)) + (nI 1)) + a1) (fun v_15 => (some v_15)))
/-! SoldLettersModel.isCellWell -/
noncomputable def j_X4_isCellWell_123 (z0 : zV) (k_74 : Int32 → Int32 → Int32 → Int32 → Int32 → Int32 → Int32 → Option (Int32)) (x1 : Int32) (x2 : Int32) (x3 : Int32) (x4 : Int32) (x5 : Int32) (x8 : Int32) (y0 : Int32) (y1 : Int32) : Option (Int32) :=
    (if y0 = y1 then (k_74 x1 x2 x3 x4 x5 (nI 1) (x8 + nI 1)) else (k_74 x1 x2 x3 x4 x5 (nI 0) (x8 + nI 1)))
noncomputable def j_X4_isCellWell_106 (z0 : zV) (k_74 : Int32 → Int32 → Int32 → Int32 → Int32 → Int32 → Int32 → Option (Int32)) (x1 : Int32) (x2 : Int32) (x3 : Int32) (x4 : Int32) (x5 : Int32) (x8 : Int32) (y0 : Int32) : Option (Int32) :=
    (Option.bind (f_X4_letterOfListed z0 x2 x8) (fun v_110 => (if v_110 = x5 then (j_X4_isCellWell_123 z0 k_74 x1 x2 x3 x4 x5 x8 y0 (nI 1)) else (j_X4_isCellWell_123 z0 k_74 x1 x2 x3 x4 x5 x8 y0 (nI 0)))))
noncomputable def l_X4_isCellWell_74 (z0 : zV) : Nat → Int32 → Int32 → Int32 → Int32 → Int32 → Int32 → Int32 → Option (Int32)
  | 0, _, _, _, _, _, _, _ => none
  | n_ + 1, x1, x2, x3, x4, x5, x7, x8 =>
    (if x3 ≤ x8 then (rB x7 (some x7)) else (if x7 = nI 0 then (rB x7 (some x7)) else (Option.bind (f_X4_cellOf z0 x1 x8) (fun v_90 => (Option.bind (f_X4_numberAt z0 v_90) (fun v_93 => (if v_93 = x4 then (j_X4_isCellWell_106 z0 (l_X4_isCellWell_74 z0 n_) x1 x2 x3 x4 x5 x8 (nI 1)) else (j_X4_isCellWell_106 z0 (l_X4_isCellWell_74 z0 n_) x1 x2 x3 x4 x5 x8 (nI 0)))))))))
noncomputable def f_X4_isCellWell (z0 : zV) (a0 : Int32) (a1 : Int32) (a2 : Int32) : Option (Int32) :=
    (Option.bind (f_X4_cellOf z0 a0 a2) (fun v_4 => (Option.bind (f_X4_numberAt z0 v_4) (fun v_7 => (Option.bind (f_X4_letterOfListed z0 a1 a2) (fun v_15 => (rA (z0.2.1 1) 205 ((nI 51) + v_7) (fun v_29 => (if v_29 = (-1) then (Option.bind (f_X4_isGuessOfAnother z0 v_15 v_7) (fun v_43 => (if v_43 = nI 0 then (l_X4_isCellWell_74 z0 1000 a0 a1 a2 v_7 v_15 (nI 1) (nI 0)) else (l_X4_isCellWell_74 z0 1000 a0 a1 a2 v_7 v_15 (nI 0) (nI 0))))) else (if v_29 = v_15 then (l_X4_isCellWell_74 z0 1000 a0 a1 a2 v_7 v_15 (nI 1) (nI 0)) else (l_X4_isCellWell_74 z0 1000 a0 a1 a2 v_7 v_15 (nI 0) (nI 0))))))))))))
/-! SoldLettersModel.isFit -/
noncomputable def l_X4_isFit_23 (z0 : zV) : Nat → Int32 → Int32 → Int32 → Int32 → Option (Int32)
  | 0, _, _, _, _ => none
  | n_ + 1, x1, x2, x3, x4 =>
    (rA (z0.2.1 6) 42 x1 (fun v_30 => (if v_30 ≤ x4 then (rB x3 (some x3)) else (if x3 = nI 0 then (rB x3 (some x3)) else (Option.bind (f_X4_isCellWell z0 x1 x2 x4) (fun v_43 => (l_X4_isFit_23 z0 n_ x1 x2 v_43 (x4 + nI 1))))))))
noncomputable def f_X4_isFit (z0 : zV) (a0 : Int32) (a1 : Int32) : Option (Int32) :=
    (Option.bind (f_X4_sizeOf z0 a1) (fun v_2 => (rA (z0.2.1 6) 42 a0 (fun v_10 => (if v_2 = v_10 then (l_X4_isFit_23 z0 1000 a0 a1 (nI 1) (nI 0)) else (l_X4_isFit_23 z0 1000 a0 a1 (nI 0) (nI 0)))))))
/-! SoldLettersModel.type -/
noncomputable def f_X4_type (z0 : zV) (a0 : Int32) : Option (Int32 × zV) :=
    (if (z0.1 0 11) = (nI 60) then (some ((-3), z0)) else (wS z0 8 60 (z0.1 0 11) a0 (fun z_21 => (pS z_21 0 11 ((z_21.1 0 11) + (nI 1)) (fun z_29 => (some ((z_29.1 0 11), z_29)))))))
/-! SoldLettersModel.clearText -/
noncomputable def f_X4_clearText (z0 : zV) : Option (Int32 × zV) :=
    (pS z0 0 11 (nI 0) (fun z_7 => (some ((z0.1 0 11), z_7))))
/-! SoldLettersModel.isLetter -/
noncomputable def f_X4_isLetter (z0 : zV) (a0 : Int32) : Option (Int32) :=
    (rA (z0.2.1 8) 60 a0 (fun v_5 => (Option.bind (f_X4_in z0 (Int32.toInt64 v_5) (lN 97) (lN 122)) (fun v_13 => (rB v_13 (some v_13))))))
/-! SoldLettersModel.faultOfRow -/
noncomputable def j_X4_faultOfRow_41 (z0 : zV) (x1 : Int32) : Option (Int32) :=
    (if x1 ≤ nI 0 then (some x1) else (if x1 = (z0.1 0 11) then (some (-5)) else (some x1)))
noncomputable def l_X4_faultOfRow_2 (z0 : zV) : Nat → Int32 → Option (Int32)
  | 0, _ => none
  | n_ + 1, x1 =>
    (if (z0.1 0 11) ≤ x1 then (j_X4_faultOfRow_41 z0 x1) else (if (nI 7) ≤ x1 then (j_X4_faultOfRow_41 z0 x1) else (Option.bind (f_X4_isLetter z0 x1) (fun v_18 => (if v_18 = nI 0 then (rA (z0.2.1 8) 60 x1 (fun v_29 => (if v_29 = (nI 46) then (l_X4_faultOfRow_2 z0 n_ (x1 + nI 1)) else (j_X4_faultOfRow_41 z0 x1)))) else (l_X4_faultOfRow_2 z0 n_ (x1 + nI 1)))))))
noncomputable def f_X4_faultOfRow (z0 : zV) : Option (Int32) :=
    (l_X4_faultOfRow_2 z0 1000 (nI 0))
/-! SoldLettersModel.faultOfWords -/
noncomputable def j_X4_faultOfWords_54 (z0 : zV) (k_4 : Int32 → Int32 → Option (Int32)) (x1 : Int32) (x2 : Int32) (x3 : Int32) : Option (Int32) :=
    (if x3 = nI 0 then (k_4 (nI 0) (x2 + nI 1)) else (k_4 (x1 + (nI 1)) (x2 + nI 1)))
noncomputable def j_X4_faultOfWords_31 (z0 : zV) (k_4 : Int32 → Int32 → Option (Int32)) (x1 : Int32) (x2 : Int32) (y0 : Int32) : Option (Int32) :=
    (if y0 = nI 0 then (rA (z0.2.1 8) 60 x2 (fun v_41 => (if v_41 = (nI 44) then (if (nI 2) ≤ x1 then (j_X4_faultOfWords_54 z0 k_4 x1 x2 y0) else (some x2)) else (some x2)))) else (j_X4_faultOfWords_54 z0 k_4 x1 x2 y0))
noncomputable def j_X4_faultOfWords_30 (z0 : zV) (k_31 : Int32 → Int32 → Int32 → Option (Int32)) (x1 : Int32) (x2 : Int32) : Option (Int32) :=
    (k_31 x1 x2 (nI 0))
noncomputable def l_X4_faultOfWords_4 (z0 : zV) : Nat → Int32 → Int32 → Option (Int32)
  | 0, _, _ => none
  | n_ + 1, x1, x2 =>
    (if (z0.1 0 11) ≤ x2 then (if (nI 2) ≤ x1 then (some (-5)) else (some (z0.1 0 11))) else (Option.bind (f_X4_isLetter z0 x2) (fun v_14 => (if v_14 = nI 0 then (j_X4_faultOfWords_30 z0 (j_X4_faultOfWords_31 z0 (l_X4_faultOfWords_4 z0 n_)) x1 x2) else (if (nI 7) ≤ x1 then (j_X4_faultOfWords_30 z0 (j_X4_faultOfWords_31 z0 (l_X4_faultOfWords_4 z0 n_)) x1 x2) else (j_X4_faultOfWords_31 z0 (l_X4_faultOfWords_4 z0 n_) x1 x2 (nI 1)))))))
noncomputable def f_X4_faultOfWords (z0 : zV) : Option (Int32) :=
    (l_X4_faultOfWords_4 z0 1000 (nI 0) (nI 0))
/-! SoldLettersModel.setRow -/
noncomputable def l_X4_setRow_36 : Nat → zV → Int32 → Int32 → Option (Int32 × zV)
  | 0, _, _, _ => none
  | n_ + 1, z0, x1, x3 =>
    (if (nI 7) ≤ x3 then (Option.bind (f_X4_forgets z0) (fun z_94 => (Option.bind (f_X4_findsWords z_94) (fun z_98 => (bd2 (f_X4_acted z_98 (z_98.1 0 9)) (fun v_106 z_106 => (some (v_106, z_106)))))))) else (if (z0.1 0 11) ≤ x3 then (wS z0 1 205 (((nI 0) + ((nI 7) * x1)) + x3) (-1) (fun z_86 => (l_X4_setRow_36 n_ z_86 x1 (x3 + nI 1)))) else (rA (z0.2.1 8) 60 x3 (fun v_67 => (if v_67 = (nI 46) then (wS z0 1 205 (((nI 0) + ((nI 7) * x1)) + x3) (-1) (fun z_86 => (l_X4_setRow_36 n_ z_86 x1 (x3 + nI 1)))) else (rA (z0.2.1 8) 60 x3 (fun v_78 => (wS z0 1 205 (((nI 0) + ((nI 7) * x1)) + x3) (v_78 - (nI 97)) (fun z_86 => (l_X4_setRow_36 n_ z_86 x1 (x3 + nI 1)))))))))))
noncomputable def f_X4_setRow (z0 : zV) (a0 : Int32) : Option (Int32 × zV) :=
    (Option.bind (f_X4_in z0 (Int32.toInt64 a0) (lN 0) (lN 6)) (fun v_6 => (if v_6 = nI 0 then (some ((-1), z0)) else (Option.bind (f_X4_faultOfRow z0) (fun v_15 => (if v_15 = (-5) then (Option.bind (f_X4_remember z0) (fun z_31 => (l_X4_setRow_36 1000 z_31 a0 (nI 0)))) else (some (((-100) - v_15), z0))))))))
/-! SoldLettersModel.setKey -/
noncomputable def j_X4_setKey_64 (z0 : zV) (x1 : Int32) (x2 : Int32) : Option (Int32 × zV) :=
    (Option.bind (f_X4_remember z0) (fun z_65 => (wS z_65 1 205 (nI 49) x1 (fun z_75 => (wS z_75 1 205 (nI 50) x2 (fun z_83 => (Option.bind (f_X4_forgets z_83) (fun z_85 => (Option.bind (f_X4_numberOf z_85 (nI 0)) (fun v_91 => (bd2 (f_X4_acted z_85 v_91) (fun v_94 z_94 => (some (v_94, z_94))))))))))))))
noncomputable def f_X4_setKey (z0 : zV) (a0 : Int32) (a1 : Int32) : Option (Int32 × zV) :=
    (Option.bind (f_X4_in z0 (Int32.toInt64 a0) (lN 1) (lN 25)) (fun v_6 => (if v_6 = nI 0 then (some ((-2), z0)) else (if (a0 - a0 / (nI 2) * (nI 2)) = nI 0 then (some ((-2), z0)) else (if a0 = (nI 13) then (some ((-2), z0)) else (Option.bind (f_X4_in z0 (Int32.toInt64 a1) (lN 0) (lN 25)) (fun v_30 => (if v_30 = nI 0 then (some ((-2), z0)) else (rA (z0.2.1 1) 205 (nI 49) (fun v_45 => (if v_45 = a0 then (rA (z0.2.1 1) 205 (nI 50) (fun v_56 => (if v_56 = a1 then (some ((-5), z0)) else (j_X4_setKey_64 z0 a0 a1)))) else (j_X4_setKey_64 z0 a0 a1))))))))))))
/-! SoldLettersModel.isOnList -/
noncomputable def j_X4_isOnList_84 (z0 : zV) (k_5 : Int32 → Int32 → Int32 → Int32 → Option (Int32)) (x1 : Int32) (x2 : Int32) (x3 : Int32) (x4 : Int32) (x5 : Int32) : Option (Int32) :=
    (if x3 = nI 0 then (if x5 = nI 0 then (k_5 x1 x2 (nI 0) (x4 + nI 1)) else (k_5 x1 x2 (nI 1) (x4 + nI 1))) else (k_5 x1 x2 (nI 1) (x4 + nI 1)))
noncomputable def l_X4_isOnList_37 (z0 : zV) (k_5 : Int32 → Int32 → Int32 → Int32 → Option (Int32)) : Nat → Int32 → Int32 → Int32 → Int32 → Int32 → Int32 → Option (Int32)
  | 0, _, _, _, _, _, _ => none
  | n_ + 1, x1, x2, x3, x4, x5, x6 =>
    (if x2 ≤ x6 then (j_X4_isOnList_84 z0 k_5 x1 x2 x3 x4 x5) else (if x5 = nI 0 then (j_X4_isOnList_84 z0 k_5 x1 x2 x3 x4 x5) else (Option.bind (f_X4_letterOfListed z0 x4 x6) (fun v_53 => (rA (z0.2.1 8) 60 (x1 + x6) (fun v_64 => (if v_53 = (v_64 - (nI 97)) then (l_X4_isOnList_37 z0 k_5 n_ x1 x2 x3 x4 (nI 1) (x6 + nI 1)) else (l_X4_isOnList_37 z0 k_5 n_ x1 x2 x3 x4 (nI 0) (x6 + nI 1)))))))))
noncomputable def l_X4_isOnList_5 (z0 : zV) : Nat → Int32 → Int32 → Int32 → Int32 → Option (Int32)
  | 0, _, _, _, _ => none
  | n_ + 1, x1, x2, x3, x4 =>
    (rA (z0.2.1 1) 205 (nI 106) (fun v_13 => (if v_13 ≤ x4 then (rB x3 (some x3)) else (Option.bind (f_X4_sizeOf z0 x4) (fun v_20 => (if v_20 = x2 then (l_X4_isOnList_37 z0 (l_X4_isOnList_5 z0 n_) 1000 x1 x2 x3 x4 (nI 1) (nI 0)) else (l_X4_isOnList_37 z0 (l_X4_isOnList_5 z0 n_) 1000 x1 x2 x3 x4 (nI 0) (nI 0))))))))
noncomputable def f_X4_isOnList (z0 : zV) (a0 : Int32) (a1 : Int32) : Option (Int32) :=
    (l_X4_isOnList_5 z0 1000 a0 a1 (nI 0) (nI 0))
/-! SoldLettersModel.addsAll -/
noncomputable def l_X4_addsAll_88 (k_2 : zV → Int32 → Option (Int32 × zV)) : Nat → zV → Int32 → Int32 → Int32 → Int32 → Option (Int32 × zV)
  | 0, _, _, _, _, _ => none
  | n_ + 1, z0, x1, x2, x3, x4 =>
    (if x2 ≤ x4 then (rA (z0.2.1 1) 205 (nI 106) (fun v_130 => (wS z0 1 205 (nI 106) (v_130 + (nI 1)) (fun z_133 => (k_2 z_133 (x1 + (x2 + (nI 1)))))))) else (rA (z0.2.1 8) 60 (x1 + x4) (fun v_112 => (wS z0 1 205 ((x3 + (nI 1)) + x4) (v_112 - (nI 97)) (fun z_116 => (l_X4_addsAll_88 k_2 n_ z_116 x1 x2 x3 (x4 + nI 1)))))))
noncomputable def j_X4_addsAll_41 (k_2 : zV → Int32 → Option (Int32 × zV)) (z0 : zV) (x1 : Int32) (x2 : Int32) : Option (Int32 × zV) :=
    (Option.bind (f_X4_isOnList z0 x1 x2) (fun v_44 => (if v_44 = nI 0 then (rA (z0.2.1 1) 205 (nI 106) (fun v_56 => (if v_56 = (nI 12) then (rB (nI 0) (some ((nI 0), z0))) else (rA (z0.2.1 1) 205 (nI 106) (fun v_74 => (wS z0 1 205 ((nI 109) + ((nI 8) * v_74)) x2 (fun z_84 => (l_X4_addsAll_88 k_2 1000 z_84 x1 x2 ((nI 109) + ((nI 8) * v_74)) (nI 0))))))))) else (k_2 z0 (x1 + (x2 + (nI 1)))))))
noncomputable def l_X4_addsAll_12 (k_2 : zV → Int32 → Option (Int32 × zV)) : Nat → zV → Int32 → Int32 → Option (Int32 × zV)
  | 0, _, _, _ => none
  | n_ + 1, z0, x1, x2 =>
    (if (z0.1 0 11) ≤ (x1 + x2) then (j_X4_addsAll_41 k_2 z0 x1 x2) else (rA (z0.2.1 8) 60 (x1 + x2) (fun v_29 => (if v_29 = (nI 44) then (j_X4_addsAll_41 k_2 z0 x1 x2) else (l_X4_addsAll_12 k_2 n_ z0 x1 (x2 + nI 1))))))
noncomputable def l_X4_addsAll_2 : Nat → zV → Int32 → Option (Int32 × zV)
  | 0, _, _ => none
  | n_ + 1, z0, x1 =>
    (if (z0.1 0 11) ≤ x1 then (rB (nI 1) (some ((nI 1), z0))) else (l_X4_addsAll_12 (l_X4_addsAll_2 n_) 1000 z0 x1 (nI 0)))
noncomputable def f_X4_addsAll (z0 : zV) : Option (Int32 × zV) :=
    (l_X4_addsAll_2 1000 z0 (nI 0))
/-! SoldLettersModel.addWords -/
noncomputable def l_X4_addWords_29 : Nat → zV → Int32 → Option (Int32 × zV)
  | 0, _, _ => none
  | n_ + 1, z0, x2 =>
    (if (nI 205) ≤ x2 then (some ((-3), z0)) else (rA (z0.2.1 2) 205 x2 (fun v_46 => (wS z0 1 205 x2 v_46 (fun z_47 => (l_X4_addWords_29 n_ z_47 (x2 + nI 1)))))))
noncomputable def f_X4_addWords (z0 : zV) : Option (Int32 × zV) :=
    (Option.bind (f_X4_faultOfWords z0) (fun v_1 => (if v_1 = (-5) then (Option.bind (f_X4_remember z0) (fun z_17 => (bd2 (f_X4_addsAll z_17) (fun v_21 z_21 => (if v_21 = nI 0 then (l_X4_addWords_29 1000 z_21 (nI 0)) else (rA (z_21.2.1 1) 205 (nI 106) (fun v_63 => (rA (z_21.2.1 2) 205 (nI 106) (fun v_70 => (if (v_63 - v_70) = nI 0 then (some ((-5), z_21)) else (bd2 (f_X4_acted z_21 (v_63 - v_70)) (fun v_84 z_84 => (some (v_84, z_84)))))))))))))) else (some (((-100) - v_1), z0)))))
/-! SoldLettersModel.dropWord -/
noncomputable def l_X4_dropWord_33 : Nat → zV → Int32 → Option (Int32 × zV)
  | 0, _, _ => none
  | n_ + 1, z0, x2 =>
    (rA (z0.2.1 1) 205 (nI 106) (fun v_44 => (if ((nI 109) + ((nI 8) * v_44)) ≤ x2 then (rA (z0.2.1 1) 205 (nI 106) (fun v_78 => (bd2 (f_X4_acted z0 v_78) (fun v_79 z_79 => (some (v_79, z_79)))))) else (rA (z0.2.1 1) 205 (x2 + (nI 8)) (fun v_63 => (wS z0 1 205 x2 v_63 (fun z_64 => (l_X4_dropWord_33 n_ z_64 (x2 + nI 1)))))))))
noncomputable def f_X4_dropWord (z0 : zV) (a0 : Int32) : Option (Int32 × zV) :=
    (Option.bind (f_X4_isListed z0 a0) (fun v_2 => (if v_2 = nI 0 then (some ((-1), z0)) else (Option.bind (f_X4_remember z0) (fun z_11 => (rA (z_11.2.1 1) 205 (nI 106) (fun v_21 => (wS z_11 1 205 (nI 106) (v_21 - (nI 1)) (fun z_24 => (l_X4_dropWord_33 1000 z_24 ((nI 109) + ((nI 8) * a0))))))))))))
/-! SoldLettersModel.guessedCells -/
noncomputable def l_X4_guessedCells_4 (z0 : zV) : Nat → Int32 → Int32 → Option (Int32)
  | 0, _, _ => none
  | n_ + 1, x1, x2 =>
    (if (nI 49) ≤ x2 then (some x1) else (Option.bind (f_X4_guessAt z0 x2) (fun v_13 => (if v_13 = (-1) then (l_X4_guessedCells_4 z0 n_ (x1 + (nI 0)) (x2 + nI 1)) else (l_X4_guessedCells_4 z0 n_ (x1 + (nI 1)) (x2 + nI 1))))))
noncomputable def f_X4_guessedCells (z0 : zV) : Option (Int32) :=
    (l_X4_guessedCells_4 z0 1000 (nI 0) (nI 0))
/-! SoldLettersModel.guess -/
noncomputable def j_X4_guess_77 (z0 : zV) (x1 : Int32) (x3 : Int32) : Option (Int32 × zV) :=
    (rA (z0.2.1 1) 205 ((nI 51) + x1) (fun v_85 => (if v_85 = x3 then (some ((-5), z0)) else (Option.bind (f_X4_remember z0) (fun z_94 => (wS z_94 1 205 ((nI 51) + x1) x3 (fun z_106 => (Option.bind (f_X4_guessedCells z_106) (fun v_109 => (bd2 (f_X4_acted z_106 v_109) (fun v_112 z_112 => (some (v_112, z_112)))))))))))))
noncomputable def j_X4_guess_46 (z0 : zV) (x1 : Int32) (y0 : Int32) : Option (Int32 × zV) :=
    (rA (z0.2.1 1) 205 ((nI 78) + x1) (fun v_55 => (if v_55 = (nI 1) then (some ((-4), z0)) else (if y0 = (-1) then (j_X4_guess_77 z0 x1 y0) else (Option.bind (f_X4_isGuessOfAnother z0 y0 x1) (fun v_68 => (if v_68 = nI 0 then (j_X4_guess_77 z0 x1 y0) else (some ((-4), z0)))))))))
noncomputable def j_X4_guess_32 (z0 : zV) (x1 : Int32) (x2 : Int32) : Option (Int32 × zV) :=
    (if x2 = (nI 46) then (j_X4_guess_46 z0 x1 (-1)) else (j_X4_guess_46 z0 x1 (x2 - (nI 97))))
noncomputable def f_X4_guess (z0 : zV) (a0 : Int32) (a1 : Int32) : Option (Int32 × zV) :=
    (Option.bind (f_X4_isNumber z0 a0) (fun v_1 => (if v_1 = nI 0 then (some ((-1), z0)) else (if a1 = (nI 46) then (j_X4_guess_32 z0 a0 a1) else (Option.bind (f_X4_in z0 (Int32.toInt64 a1) (lN 97) (lN 122)) (fun v_23 => (if v_23 = nI 0 then (some ((-2), z0)) else (j_X4_guess_32 z0 a0 a1))))))))
/-! SoldLettersModel.guessWord -/
noncomputable def l_X4_guessWord_39 : Nat → zV → Int32 → Int32 → Int32 → Int32 → Option (Int32 × zV)
  | 0, _, _, _, _, _ => none
  | n_ + 1, z0, x1, x2, x3, x4 =>
    (rA (z0.2.1 6) 42 x1 (fun v_46 => (if v_46 ≤ x4 then (if x3 = nI 0 then (some ((-5), z0)) else (bd2 (f_X4_acted z0 x3) (fun v_119 z_119 => (some (v_119, z_119))))) else (Option.bind (f_X4_cellOf z0 x1 x4) (fun v_55 => (Option.bind (f_X4_numberAt z0 v_55) (fun v_58 => (rA (z0.2.1 1) 205 ((nI 51) + v_58) (fun v_73 => (if v_73 = (-1) then (Option.bind (f_X4_letterOfListed z0 x2 x4) (fun v_98 => (wS z0 1 205 ((nI 51) + v_58) v_98 (fun z_101 => (l_X4_guessWord_39 n_ z_101 x1 x2 (x3 + (nI 1)) (x4 + nI 1)))))) else (Option.bind (f_X4_letterOfListed z0 x2 x4) (fun v_98 => (wS z0 1 205 ((nI 51) + v_58) v_98 (fun z_101 => (l_X4_guessWord_39 n_ z_101 x1 x2 (x3 + (nI 0)) (x4 + nI 1))))))))))))))))
noncomputable def f_X4_guessWord (z0 : zV) (a0 : Int32) (a1 : Int32) : Option (Int32 × zV) :=
    (bd2 (f_X4_isWord z0 a0) (fun v_2 z_2 => (if v_2 = nI 0 then (some ((-1), z_2)) else (Option.bind (f_X4_isListed z_2 a1) (fun v_10 => (if v_10 = nI 0 then (some ((-1), z_2)) else (Option.bind (f_X4_isFit z_2 a0 a1) (fun v_21 => (if v_21 = nI 0 then (some ((-4), z_2)) else (Option.bind (f_X4_remember z_2) (fun z_31 => (l_X4_guessWord_39 1000 z_31 a0 a1 (nI 0) (nI 0)))))))))))))
/-! SoldLettersModel.buy -/
noncomputable def l_X4_buy_66 : Nat → zV → Int32 → Int32 → Int32 → Int32 → Option (Int32 × zV)
  | 0, _, _, _, _, _ => none
  | n_ + 1, z0, x1, x2, x3, x4 =>
    (if (nI 26) < x4 then (wS z0 1 205 ((nI 51) + x1) x3 (fun z_126 => (wS z_126 1 205 ((nI 78) + x1) (nI 1) (fun z_136 => (rA (z_136.2.1 1) 205 (nI 105) (fun v_144 => (wS z_136 1 205 (nI 105) (v_144 - x2) (fun z_147 => (rA (z_147.2.1 1) 205 (nI 107) (fun v_155 => (wS z_147 1 205 (nI 107) (v_155 + (nI 1)) (fun z_158 => (bd2 (f_X4_acted z_158 ((nI 97) + x3)) (fun v_164 z_164 => (some (v_164, z_164)))))))))))))))) else (rA (z0.2.1 1) 205 ((nI 51) + x4) (fun v_91 => (if v_91 = x3 then (wS z0 1 205 ((nI 51) + x4) (-1) (fun z_110 => (l_X4_buy_66 n_ z_110 x1 x2 x3 (x4 + nI 1)))) else (rA (z0.2.1 1) 205 ((nI 51) + x4) (fun v_109 => (wS z0 1 205 ((nI 51) + x4) v_109 (fun z_110 => (l_X4_buy_66 n_ z_110 x1 x2 x3 (x4 + nI 1))))))))))
noncomputable def f_X4_buy (z0 : zV) (a0 : Int32) : Option (Int32 × zV) :=
    (Option.bind (f_X4_isNumber z0 a0) (fun v_1 => (if v_1 = nI 0 then (some ((-1), z0)) else (Option.bind (f_X4_priceOf z0 a0) (fun v_11 => (rA (z0.2.1 1) 205 ((nI 78) + a0) (fun v_23 => (if v_23 = (nI 1) then (some ((-4), z0)) else (rA (z0.2.1 1) 205 (nI 105) (fun v_34 => (if v_11 ≤ v_34 then (Option.bind (f_X4_cellsWith z0 a0) (fun v_44 => (if v_44 = nI 0 then (some ((-5), z0)) else (Option.bind (f_X4_remember z0) (fun z_54 => (Option.bind (f_X4_letterOf z_54 a0) (fun v_59 => (l_X4_buy_66 1000 z_54 a0 v_11 v_59 (nI 1))))))))) else (some ((-4), z0)))))))))))))
/-! SoldLettersModel.check -/
noncomputable def l_X4_check_53 : Nat → zV → Int32 → Int32 → Int32 → Option (Int32 × zV)
  | 0, _, _, _, _ => none
  | n_ + 1, z0, x1, x2, x3 =>
    (rA (z0.2.1 6) 42 x1 (fun v_59 => (if v_59 ≤ x3 then (bd2 (f_X4_acted z0 x2) (fun v_115 z_115 => (some (v_115, z_115)))) else (Option.bind (f_X4_cellOf z0 x1 x3) (fun v_66 => (Option.bind (f_X4_guessAt z0 v_66) (fun v_75 => (if v_75 = (-1) then (l_X4_check_53 n_ z0 x1 (x2 + (nI 0)) (x3 + nI 1)) else (Option.bind (f_X4_guessAt z0 v_66) (fun v_85 => (rA (z0.2.1 1) 205 ((nI 0) + v_66) (fun v_96 => (if v_85 = v_96 then (l_X4_check_53 n_ z0 x1 (x2 + (nI 0)) (x3 + nI 1)) else (l_X4_check_53 n_ z0 x1 (x2 + (nI 1)) (x3 + nI 1)))))))))))))))
noncomputable def f_X4_check (z0 : zV) (a0 : Int32) : Option (Int32 × zV) :=
    (bd2 (f_X4_isWord z0 a0) (fun v_2 z_2 => (if v_2 = nI 0 then (some ((-1), z_2)) else (rA (z_2.2.1 1) 205 (nI 105) (fun v_16 => (if v_16 = nI 0 then (some ((-4), z_2)) else (Option.bind (f_X4_remember z_2) (fun z_24 => (rA (z_24.2.1 1) 205 (nI 105) (fun v_34 => (wS z_24 1 205 (nI 105) (v_34 - (nI 1)) (fun z_37 => (rA (z_37.2.1 1) 205 (nI 108) (fun v_45 => (wS z_37 1 205 (nI 108) (v_45 + (nI 1)) (fun z_48 => (l_X4_check_53 1000 z_48 a0 (nI 0) (nI 0))))))))))))))))))
/-! SoldLettersModel.give -/
noncomputable def f_X4_give (z0 : zV) (a0 : Int32) : Option (Int32 × zV) :=
    (Option.bind (f_X4_in z0 (Int32.toInt64 a0) (lN 1) (lN 99)) (fun v_6 => (if v_6 = nI 0 then (some ((-2), z0)) else (rA (z0.2.1 1) 205 (nI 105) (fun v_21 => (if v_21 = (nI 999) then (some ((-5), z0)) else (Option.bind (f_X4_remember z0) (fun z_32 => (rA (z_32.2.1 1) 205 (nI 105) (fun v_41 => (if (nI 999) ≤ (v_41 + a0) then (wS z_32 1 205 (nI 105) (nI 999) (fun z_65 => (rA (z_65.2.1 1) 205 (nI 105) (fun v_73 => (bd2 (f_X4_acted z_65 v_73) (fun v_74 z_74 => (some (v_74, z_74)))))))) else (wS z_32 1 205 (nI 105) (v_41 + a0) (fun z_65 => (rA (z_65.2.1 1) 205 (nI 105) (fun v_73 => (bd2 (f_X4_acted z_65 v_73) (fun v_74 z_74 => (some (v_74, z_74)))))))))))))))))))
/-! SoldLettersModel.undo -/
noncomputable def l_X4_undo_22 : Nat → zV → Int32 → Option (Int32 × zV)
  | 0, _, _ => none
  | n_ + 1, z0, x1 =>
    (if (nI 205) ≤ x1 then (some ((z0.1 0 3), z0)) else (rA (z0.2.1 3) 820 (((nI 205) * (z0.1 0 3)) + x1) (fun v_48 => (wS z0 1 205 x1 v_48 (fun z_49 => (l_X4_undo_22 n_ z_49 (x1 + nI 1)))))))
noncomputable def f_X4_undo (z0 : zV) : Option (Int32 × zV) :=
    (if (z0.1 0 3) = nI 0 then (some ((-5), z0)) else (pS z0 0 3 ((z0.1 0 3) - (nI 1)) (fun z_17 => (l_X4_undo_22 1000 z_17 (nI 0)))))
/-! SoldLettersModel.keep -/
noncomputable def l_X4_keep_2 : Nat → zV → Int32 → Option (Int32 × zV)
  | 0, _, _ => none
  | n_ + 1, z0, x1 =>
    (if (nI 205) ≤ x1 then (pS z0 0 5 (nI 1) (fun z_29 => (rA (z_29.2.1 1) 205 (nI 105) (fun v_38 => (some (v_38, z_29)))))) else (rA (z0.2.1 1) 205 x1 (fun v_19 => (wS z0 4 205 x1 v_19 (fun z_20 => (l_X4_keep_2 n_ z_20 (x1 + nI 1)))))))
noncomputable def f_X4_keep (z0 : zV) : Option (Int32 × zV) :=
    (l_X4_keep_2 1000 z0 (nI 0))
/-! SoldLettersModel.restore -/
noncomputable def l_X4_restore_16 : Nat → zV → Int32 → Option (Int32 × zV)
  | 0, _, _ => none
  | n_ + 1, z0, x1 =>
    (if (nI 205) ≤ x1 then (rA (z0.2.1 1) 205 (nI 105) (fun v_48 => (bd2 (f_X4_acted z0 v_48) (fun v_49 z_49 => (some (v_49, z_49)))))) else (rA (z0.2.1 4) 205 x1 (fun v_33 => (wS z0 1 205 x1 v_33 (fun z_34 => (l_X4_restore_16 n_ z_34 (x1 + nI 1)))))))
noncomputable def f_X4_restore (z0 : zV) : Option (Int32 × zV) :=
    (if (z0.1 0 5) = nI 0 then (some ((-5), z0)) else (Option.bind (f_X4_remember z0) (fun z_11 => (l_X4_restore_16 1000 z_11 (nI 0)))))
/-! SoldLettersModel.cell -/
noncomputable def f_X4_cell (z0 : zV) (a0 : Int32) (a1 : Int32) (a2 : Int32) : Option (Int32 × zV) :=
    (Option.bind (f_X4_in z0 (Int32.toInt64 a0) (lN 0) (lN 6)) (fun v_6 => (if v_6 = nI 0 then (some ((-1), z0)) else (Option.bind (f_X4_in z0 (Int32.toInt64 a1) (lN 0) (lN 6)) (fun v_18 => (if v_18 = nI 0 then (some ((-1), z0)) else (if a2 = nI 0 then (Option.bind (f_X4_numberAt z0 (((nI 7) * a0) + a1)) (fun v_67 => (some (v_67, z0)))) else (if a2 = nI 1 then (Option.bind (f_X4_guessAt z0 (((nI 7) * a0) + a1)) (fun v_74 => (Option.bind (f_X4_coded z0 v_74) (fun v_77 => (some (v_77, z0)))))) else (if a2 = nI 2 then (bd2 (f_X4_wordAt z0 (((nI 7) * a0) + a1) (nI 1)) (fun v_85 z_85 => (some (v_85, z_85)))) else (if a2 = nI 3 then (bd2 (f_X4_wordAt z0 (((nI 7) * a0) + a1) (nI 7)) (fun v_94 z_94 => (some (v_94, z_94)))) else (some ((-2), z0))))))))))))
/-! SoldLettersModel.number -/
noncomputable def f_X4_number (z0 : zV) (a0 : Int32) (a1 : Int32) : Option (Int32 × zV) :=
    (Option.bind (f_X4_isNumber z0 a0) (fun v_1 => (if v_1 = nI 0 then (some ((-1), z0)) else (if a1 = nI 0 then (Option.bind (f_X4_cellsWith z0 a0) (fun v_46 => (some (v_46, z0)))) else (if a1 = nI 1 then (rA (z0.2.1 1) 205 ((nI 51) + a0) (fun v_58 => (Option.bind (f_X4_coded z0 v_58) (fun v_59 => (some (v_59, z0)))))) else (if a1 = nI 2 then (Option.bind (f_X4_priceOf z0 a0) (fun v_65 => (some (v_65, z0)))) else (if a1 = nI 3 then (rA (z0.2.1 1) 205 ((nI 78) + a0) (fun v_77 => (some (v_77, z0)))) else (if a1 = nI 4 then (bd2 (f_X4_wordsWith z0 a0) (fun v_81 z_81 => (some (v_81, z_81)))) else (some ((-2), z0))))))))))
/-! SoldLettersModel.guessedOf -/
noncomputable def l_X4_guessedOf_4 (z0 : zV) : Nat → Int32 → Int32 → Int32 → Option (Int32)
  | 0, _, _, _ => none
  | n_ + 1, x1, x2, x3 =>
    (rA (z0.2.1 6) 42 x1 (fun v_10 => (if v_10 ≤ x3 then (some x2) else (Option.bind (f_X4_cellOf z0 x1 x3) (fun v_19 => (Option.bind (f_X4_guessAt z0 v_19) (fun v_22 => (if v_22 = (-1) then (l_X4_guessedOf_4 z0 n_ x1 (x2 + (nI 0)) (x3 + nI 1)) else (l_X4_guessedOf_4 z0 n_ x1 (x2 + (nI 1)) (x3 + nI 1))))))))))
noncomputable def f_X4_guessedOf (z0 : zV) (a0 : Int32) : Option (Int32) :=
    (l_X4_guessedOf_4 z0 1000 a0 (nI 0) (nI 0))
/-! SoldLettersModel.fitting -/
noncomputable def l_X4_fitting_4 (z0 : zV) : Nat → Int32 → Int32 → Int32 → Option (Int32)
  | 0, _, _, _ => none
  | n_ + 1, x1, x2, x3 =>
    (rA (z0.2.1 1) 205 (nI 106) (fun v_11 => (if v_11 ≤ x3 then (some x2) else (Option.bind (f_X4_isFit z0 x1 x3) (fun v_19 => (if v_19 = nI 0 then (l_X4_fitting_4 z0 n_ x1 (x2 + (nI 0)) (x3 + nI 1)) else (l_X4_fitting_4 z0 n_ x1 (x2 + (nI 1)) (x3 + nI 1))))))))
noncomputable def f_X4_fitting (z0 : zV) (a0 : Int32) : Option (Int32) :=
    (l_X4_fitting_4 z0 1000 a0 (nI 0) (nI 0))
/-! SoldLettersModel.firstFitting -/
noncomputable def l_X4_firstFitting_2 (z0 : zV) : Nat → Int32 → Int32 → Option (Int32)
  | 0, _, _ => none
  | n_ + 1, x1, x2 =>
    (rA (z0.2.1 1) 205 (nI 106) (fun v_9 => (if v_9 ≤ x2 then (some (-5)) else (Option.bind (f_X4_isFit z0 x1 x2) (fun v_16 => (if v_16 = nI 0 then (l_X4_firstFitting_2 z0 n_ x1 (x2 + nI 1)) else (some x2)))))))
noncomputable def f_X4_firstFitting (z0 : zV) (a0 : Int32) : Option (Int32) :=
    (l_X4_firstFitting_2 z0 1000 a0 (nI 0))
/-! SoldLettersModel.word -/
noncomputable def f_X4_word (z0 : zV) (a0 : Int32) (a1 : Int32) : Option (Int32 × zV) :=
    (bd2 (f_X4_isWord z0 a0) (fun v_2 z_2 => (if v_2 = nI 0 then (some ((-1), z_2)) else (if a1 = nI 0 then (rA (z_2.2.1 5) 42 a0 (fun v_57 => (some ((v_57 / (nI 7)), z_2)))) else (if a1 = nI 1 then (rA (z_2.2.1 5) 42 a0 (fun v_67 => (some ((v_67 - v_67 / (nI 7) * (nI 7)), z_2)))) else (if a1 = nI 2 then (rA (z_2.2.1 6) 42 a0 (fun v_77 => (some (v_77, z_2)))) else (if a1 = nI 3 then (rA (z_2.2.1 7) 42 a0 (fun v_84 => (if v_84 = (nI 7) then (some ((nI 1), z_2)) else (some ((nI 0), z_2))))) else (if a1 = nI 4 then (Option.bind (f_X4_guessedOf z_2 a0) (fun v_98 => (some (v_98, z_2)))) else (if a1 = nI 5 then (Option.bind (f_X4_fitting z_2 a0) (fun v_104 => (some (v_104, z_2)))) else (if a1 = nI 6 then (Option.bind (f_X4_firstFitting z_2 a0) (fun v_110 => (some (v_110, z_2)))) else (some ((-2), z_2))))))))))))
/-! SoldLettersModel.fits -/
noncomputable def f_X4_fits (z0 : zV) (a0 : Int32) (a1 : Int32) : Option (Int32 × zV) :=
    (bd2 (f_X4_isWord z0 a0) (fun v_2 z_2 => (if v_2 = nI 0 then (some ((-1), z_2)) else (Option.bind (f_X4_isListed z_2 a1) (fun v_10 => (if v_10 = nI 0 then (some ((-1), z_2)) else (Option.bind (f_X4_isFit z_2 a0 a1) (fun v_21 => (if v_21 = nI 0 then (some ((nI 0), z_2)) else (some ((nI 1), z_2)))))))))))
/-! SoldLettersModel.firstFitted -/
noncomputable def l_X4_firstFitted_2 (z0 : zV) : Nat → Int32 → Int32 → Option (Int32)
  | 0, _, _ => none
  | n_ + 1, x1, x2 =>
    (if (z0.1 0 9) ≤ x2 then (some (-5)) else (Option.bind (f_X4_isFit z0 x2 x1) (fun v_13 => (if v_13 = nI 0 then (l_X4_firstFitted_2 z0 n_ x1 (x2 + nI 1)) else (some x2)))))
noncomputable def f_X4_firstFitted (z0 : zV) (a0 : Int32) : Option (Int32) :=
    (l_X4_firstFitted_2 z0 1000 a0 (nI 0))
/-! SoldLettersModel.fitted -/
noncomputable def l_X4_fitted_4 (z0 : zV) : Nat → Int32 → Int32 → Int32 → Option (Int32)
  | 0, _, _, _ => none
  | n_ + 1, x1, x2, x3 =>
    (if (z0.1 0 9) ≤ x3 then (some x2) else (Option.bind (f_X4_isFit z0 x3 x1) (fun v_16 => (if v_16 = nI 0 then (l_X4_fitted_4 z0 n_ x1 (x2 + (nI 0)) (x3 + nI 1)) else (l_X4_fitted_4 z0 n_ x1 (x2 + (nI 1)) (x3 + nI 1))))))
noncomputable def f_X4_fitted (z0 : zV) (a0 : Int32) : Option (Int32) :=
    (l_X4_fitted_4 z0 1000 a0 (nI 0) (nI 0))
/-! SoldLettersModel.worth -/
noncomputable def l_X4_worth_4 (z0 : zV) : Nat → Int32 → Int32 → Int32 → Option (Int32)
  | 0, _, _, _ => none
  | n_ + 1, x1, x2, x3 =>
    (if (nI 26) < x3 then (some x2) else (rA (z0.2.1 1) 205 ((nI 51) + x3) (fun v_19 => (if v_19 = (-1) then (Option.bind (f_X4_hasNumber z0 x1 x3) (fun v_27 => (if v_27 = nI 0 then (l_X4_worth_4 z0 n_ x1 (x2 + (nI 0)) (x3 + nI 1)) else (Option.bind (f_X4_priceOf z0 x3) (fun v_35 => (l_X4_worth_4 z0 n_ x1 (x2 + v_35) (x3 + nI 1))))))) else (l_X4_worth_4 z0 n_ x1 (x2 + (nI 0)) (x3 + nI 1))))))
noncomputable def f_X4_worth (z0 : zV) (a0 : Int32) : Option (Int32) :=
    (l_X4_worth_4 z0 1000 a0 (nI 0) (nI 1))
/-! SoldLettersModel.listed -/
noncomputable def f_X4_listed (z0 : zV) (a0 : Int32) (a1 : Int32) : Option (Int32 × zV) :=
    (Option.bind (f_X4_isListed z0 a0) (fun v_2 => (if v_2 = nI 0 then (some ((-1), z0)) else (Option.bind (f_X4_findsWords z0) (fun z_11 => (if a1 = nI 0 then (Option.bind (f_X4_sizeOf z_11 a0) (fun v_42 => (some (v_42, z_11)))) else (if a1 = nI 1 then (Option.bind (f_X4_fitted z_11 a0) (fun v_48 => (some (v_48, z_11)))) else (if a1 = nI 2 then (Option.bind (f_X4_firstFitted z_11 a0) (fun v_54 => (if v_54 = (-5) then (some ((-5), z_11)) else (Option.bind (f_X4_firstFitted z_11 a0) (fun v_70 => (Option.bind (f_X4_worth z_11 v_70) (fun v_73 => (some (v_73, z_11))))))))) else (some ((-2), z_11))))))))))
/-! SoldLettersModel.isFitWith -/
noncomputable def l_X4_isFitWith_18 (z0 : zV) (k_3 : Int32 → Int32 → Int32 → Int32 → Option (Int32)) : Nat → Int32 → Int32 → Int32 → Int32 → Int32 → Option (Int32)
  | 0, _, _, _, _, _ => none
  | n_ + 1, x1, x2, x3, x4, x5 =>
    (rA (z0.2.1 6) 42 x1 (fun v_25 => (if v_25 ≤ x5 then (k_3 x1 x2 x3 (x4 + nI 1)) else (Option.bind (f_X4_isFit z0 x1 x4) (fun v_33 => (if v_33 = nI 0 then (k_3 x1 x2 x3 (x4 + nI 1)) else (Option.bind (f_X4_cellOf z0 x1 x5) (fun v_44 => (Option.bind (f_X4_numberAt z0 v_44) (fun v_47 => (if v_47 = x2 then (Option.bind (f_X4_letterOfListed z0 x4 x5) (fun v_59 => (if v_59 = x3 then (rB (nI 1) (some (nI 1))) else (l_X4_isFitWith_18 z0 k_3 n_ x1 x2 x3 x4 (x5 + nI 1))))) else (l_X4_isFitWith_18 z0 k_3 n_ x1 x2 x3 x4 (x5 + nI 1)))))))))))))
noncomputable def l_X4_isFitWith_3 (z0 : zV) : Nat → Int32 → Int32 → Int32 → Int32 → Option (Int32)
  | 0, _, _, _, _ => none
  | n_ + 1, x1, x2, x3, x4 =>
    (rA (z0.2.1 1) 205 (nI 106) (fun v_11 => (if v_11 ≤ x4 then (rB (nI 0) (some (nI 0))) else (l_X4_isFitWith_18 z0 (l_X4_isFitWith_3 z0 n_) 1000 x1 x2 x3 x4 (nI 0)))))
noncomputable def f_X4_isFitWith (z0 : zV) (a0 : Int32) (a1 : Int32) (a2 : Int32) : Option (Int32) :=
    (l_X4_isFitWith_3 z0 1000 a0 a1 a2 (nI 0))
/-! SoldLettersModel.couldBe -/
noncomputable def l_X4_couldBe_18 (z0 : zV) : Nat → Int32 → Int32 → Int32 → Int32 → Option (Int32)
  | 0, _, _, _, _ => none
  | n_ + 1, x1, x2, x3, x4 =>
    (if (z0.1 0 9) ≤ x4 then (rB x3 (some x3)) else (if x3 = nI 0 then (rB x3 (some x3)) else (Option.bind (f_X4_hasNumber z0 x4 x1) (fun v_35 => (if v_35 = nI 0 then (l_X4_couldBe_18 z0 n_ x1 x2 (nI 1) (x4 + nI 1)) else (Option.bind (f_X4_fitting z0 x4) (fun v_44 => (if v_44 = nI 0 then (l_X4_couldBe_18 z0 n_ x1 x2 (nI 1) (x4 + nI 1)) else (Option.bind (f_X4_isFitWith z0 x4 x1 x2) (fun v_55 => (if v_55 = nI 0 then (l_X4_couldBe_18 z0 n_ x1 x2 (nI 0) (x4 + nI 1)) else (l_X4_couldBe_18 z0 n_ x1 x2 (nI 1) (x4 + nI 1)))))))))))))
noncomputable def f_X4_couldBe (z0 : zV) (a0 : Int32) (a1 : Int32) : Option (Int32) :=
    (Option.bind (f_X4_isGuessOfAnother z0 a1 a0) (fun v_3 => (if v_3 = nI 0 then (l_X4_couldBe_18 z0 1000 a0 a1 (nI 1) (nI 0)) else (l_X4_couldBe_18 z0 1000 a0 a1 (nI 0) (nI 0)))))
/-! SoldLettersModel.could -/
noncomputable def j_X4_could_85 (k_60 : zV → Int32 → Int32 → Int32 → Int32 → Int32 → Option (Int32 × zV)) (z0 : zV) (x1 : Int32) (x2 : Int32) (x4 : Int32) (x5 : Int32) (x6 : Int32) (y0 : Int32) (y1 : Int32) : Option (Int32 × zV) :=
    (if x6 = nI 0 then (k_60 z0 x1 x2 (y0 + y1) x4 (x5 + (-1))) else (k_60 z0 x1 x2 (y0 + y1) ((nI 97) + x5) (x5 + (-1))))
noncomputable def l_X4_could_60 : Nat → zV → Int32 → Int32 → Int32 → Int32 → Int32 → Option (Int32 × zV)
  | 0, _, _, _, _, _, _ => none
  | n_ + 1, z0, x1, x2, x3, x4, x5 =>
    (if x5 < nI 0 then (if x2 = nI 0 then (some (x3, z0)) else (some (x4, z0))) else (Option.bind (f_X4_couldBe z0 x1 x5) (fun v_69 => (if v_69 = nI 0 then (j_X4_could_85 (l_X4_could_60 n_) z0 x1 x2 x4 x5 v_69 x3 (nI 0)) else (j_X4_could_85 (l_X4_could_60 n_) z0 x1 x2 x4 x5 v_69 x3 (nI 1))))))
noncomputable def f_X4_could (z0 : zV) (a0 : Int32) (a1 : Int32) : Option (Int32 × zV) :=
    (Option.bind (f_X4_isNumber z0 a0) (fun v_1 => (if v_1 = nI 0 then (some ((-1), z0)) else (Option.bind (f_X4_in z0 (Int32.toInt64 a1) (lN 0) (lN 1)) (fun v_13 => (if v_13 = nI 0 then (some ((-2), z0)) else (rA (z0.2.1 1) 205 ((nI 51) + a0) (fun v_30 => (if v_30 = (-1) then (Option.bind (f_X4_cellsWith z0 a0) (fun v_37 => (if v_37 = nI 0 then (some ((-5), z0)) else (Option.bind (f_X4_findsWords z0) (fun z_47 => (l_X4_could_60 1000 z_47 a0 a1 (nI 0) (-5) (nI 25))))))) else (some ((-5), z0)))))))))))
/-! SoldLettersModel.letterCells -/
noncomputable def l_X4_letterCells_4 (z0 : zV) : Nat → Int32 → Int32 → Option (Int32)
  | 0, _, _ => none
  | n_ + 1, x1, x2 =>
    (if (nI 49) ≤ x2 then (some x1) else (rA (z0.2.1 1) 205 ((nI 0) + x2) (fun v_18 => (if v_18 = (-1) then (l_X4_letterCells_4 z0 n_ (x1 + (nI 0)) (x2 + nI 1)) else (l_X4_letterCells_4 z0 n_ (x1 + (nI 1)) (x2 + nI 1))))))
noncomputable def f_X4_letterCells (z0 : zV) : Option (Int32) :=
    (l_X4_letterCells_4 z0 1000 (nI 0) (nI 0))
/-! SoldLettersModel.wordsNow -/
noncomputable def f_X4_wordsNow (z0 : zV) : Option (Int32 × zV) :=
    (Option.bind (f_X4_findsWords z0) (fun z_1 => (some ((z_1.1 0 9), z_1))))
/-! SoldLettersModel.numbers -/
noncomputable def l_X4_numbers_4 (z0 : zV) : Nat → Int32 → Int32 → Int32 → Option (Int32)
  | 0, _, _, _ => none
  | n_ + 1, x1, x2, x3 =>
    (if (nI 26) < x3 then (some x2) else (Option.bind (f_X4_cellsWith z0 x3) (fun v_13 => (if v_13 ≤ nI 0 then (l_X4_numbers_4 z0 n_ x1 (x2 + (nI 0)) (x3 + nI 1)) else (if x1 = nI 0 then (l_X4_numbers_4 z0 n_ x1 (x2 + (nI 1)) (x3 + nI 1)) else (rA (z0.2.1 1) 205 ((nI 51) + x3) (fun v_31 => (if v_31 = (-1) then (l_X4_numbers_4 z0 n_ x1 (x2 + (nI 0)) (x3 + nI 1)) else (l_X4_numbers_4 z0 n_ x1 (x2 + (nI 1)) (x3 + nI 1))))))))))
noncomputable def f_X4_numbers (z0 : zV) (a0 : Int32) : Option (Int32) :=
    (l_X4_numbers_4 z0 1000 a0 (nI 0) (nI 1))
/-! SoldLettersModel.isSolved -/
noncomputable def l_X4_isSolved_15 (z0 : zV) : Nat → Int32 → Int32 → Option (Int32)
  | 0, _, _ => none
  | n_ + 1, x1, x2 =>
    (if (nI 49) ≤ x2 then (rB x1 (some x1)) else (if x1 = nI 0 then (l_X4_isSolved_15 z0 n_ (nI 0) (x2 + nI 1)) else (rA (z0.2.1 1) 205 ((nI 0) + x2) (fun v_32 => (if v_32 = (-1) then (l_X4_isSolved_15 z0 n_ (nI 1) (x2 + nI 1)) else (Option.bind (f_X4_guessAt z0 x2) (fun v_39 => (rA (z0.2.1 1) 205 ((nI 0) + x2) (fun v_49 => (if v_39 = v_49 then (l_X4_isSolved_15 z0 n_ (nI 1) (x2 + nI 1)) else (l_X4_isSolved_15 z0 n_ (nI 0) (x2 + nI 1))))))))))))
noncomputable def f_X4_isSolved (z0 : zV) : Option (Int32) :=
    (Option.bind (f_X4_letterCells z0) (fun v_1 => (if v_1 ≤ nI 0 then (l_X4_isSolved_15 z0 1000 (nI 0) (nI 0)) else (l_X4_isSolved_15 z0 1000 (nI 1) (nI 0)))))
/-! SoldLettersModel.count -/
noncomputable def f_X4_count (z0 : zV) (a0 : Int32) : Option (Int32 × zV) :=
    (if a0 = nI 0 then (Option.bind (f_X4_letterCells z0) (fun v_73 => (some (v_73, z0)))) else (if a0 = nI 1 then (bd2 (f_X4_wordsNow z0) (fun v_78 z_78 => (some (v_78, z_78)))) else (if a0 = nI 2 then (rA (z0.2.1 1) 205 (nI 106) (fun v_88 => (some (v_88, z0)))) else (if a0 = nI 3 then (rA (z0.2.1 1) 205 (nI 105) (fun v_96 => (some (v_96, z0)))) else (if a0 = nI 4 then (Option.bind (f_X4_numbers z0 (nI 0)) (fun v_100 => (some (v_100, z0)))) else (if a0 = nI 5 then (Option.bind (f_X4_numbers z0 (nI 1)) (fun v_106 => (some (v_106, z0)))) else (if a0 = nI 6 then (Option.bind (f_X4_guessedCells z0) (fun v_111 => (some (v_111, z0)))) else (if a0 = nI 7 then (Option.bind (f_X4_isSolved z0) (fun v_116 => (if v_116 = nI 0 then (some ((nI 0), z0)) else (some ((nI 1), z0))))) else (if a0 = nI 8 then (rA (z0.2.1 1) 205 (nI 107) (fun v_134 => (some (v_134, z0)))) else (if a0 = nI 9 then (rA (z0.2.1 1) 205 (nI 108) (fun v_142 => (some (v_142, z0)))) else (if a0 = nI 10 then (rA (z0.2.1 1) 205 (nI 49) (fun v_150 => (some (v_150, z0)))) else (if a0 = nI 11 then (rA (z0.2.1 1) 205 (nI 50) (fun v_158 => (some (v_158, z0)))) else (if a0 = nI 12 then (some ((z0.1 0 3), z0)) else (if a0 = nI 13 then (some ((z0.1 0 11), z0)) else (some ((-2), z0))))))))))))))))
