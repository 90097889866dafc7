/-! COULD and COUNT alike -/
theorem T_could {z m : zV} {S : aS} (R : RC0 z S) (I : Iv S) (W : RW z (wl S.1)) (Q : RM0 m S) (a b : Int32) : ∃ r m', f_X3_could z a b = some r ∧ f_X4_could m a b = some (r, m') ∧ frV m m' := by
  rw [f_X3_could, f_X4_could, X3_isNumber, ob_eq, ifb2, X4_isNumber, ob_eq, ifb2, X4_inL m b (by omega) (by omega), ob_eq, ifb2]
  by_cases ha : inR a 1 26 = true
  · rw [if_pos ha, if_pos ha]
    obtain ⟨n, h1, h2, rfl⟩ := inR_t (lo := 1) (hi := 26) (by omega) ha
    have hcw := cw_le S n
    by_cases hb : inR b 0 1 = true
    · have hb' := hb
      obtain ⟨v, -, hv, rfl⟩ := inR_t (lo := 0) (hi := 1) (by omega) hb
      rw [iflt_f (by omega) (by omega), ifle_t hv (by omega), if_pos (show inR (nI v) ((0 : Nat) : Int) ((1 : Nat) : Int) = true from hb'), nI_add, rA_in (by omega) (by omega), R.2.1 n h1 h2, ifec0 (I.2.2.1 n h1 h2), rA_in (by omega) (by omega), Q.2.1 n h1 h2, ifem0 (I.2.2.1 n h1 h2)]
      by_cases q : S.2.1 n = 0
      · rw [if_pos q, if_pos q, X0_cellsWith R I h2, ob_eq, X4_cellsWith Q I h1 h2, ob_eq]
        by_cases q2 : cw S n = 0
        · rw [ifeq_t q2, ifeq_t q2]
          exact ⟨_, m, rfl, rfl, frV_rf m⟩
        · obtain ⟨x, ex, hx⟩ := X3_possible R I W h2
          obtain ⟨m', e, W', F, Q'⟩ := X4_finds Q I
          rw [ifeq_f q2 (by omega) (by omega), ifeq_f q2 (by omega) (by omega), ex, ob_eq, e, ob_eq, X4_could60 Q' I W' h2]
          have hx1 := hx.1
          by_cases q3 : v = 0
          · subst q3
            rw [if_pos rfl, J6_bitCount z (by omega), ob_eq, MK_cn hx, if_pos rfl]
            exact ⟨_, m', rfl, rfl, F⟩
          · have : ¬ nI v = nI 0 := fun q4 => q3 ((nI_eq (by omega) (by omega)).mp q4)
            rw [if_neg this, X3_lowest z hx, ob_eq, if_neg this]
            exact ⟨_, m', rfl, rfl, F⟩
      · rw [if_neg q, if_neg q]
        exact ⟨_, m, rfl, rfl, frV_rf m⟩
    · have hb' : ¬ inR b (0 : Nat) (1 : Nat) = true := hb
      rw [if_neg hb']
      unfold inR at hb
      rw [decide_eq_true_eq] at hb
      by_cases q : b < nI 0
      · rw [if_pos q]
        exact ⟨_, m, rfl, rfl, frV_rf m⟩
      · rw [if_neg q]
        rw [lt_toInt, nI_toI (by omega)] at q
        rw [if_neg (by rw [le_toInt, nI_toI (by omega)]; omega)]
        exact ⟨_, m, rfl, rfl, frV_rf m⟩
  · rw [if_neg ha, if_neg ha]
    exact ⟨_, m, rfl, rfl, frV_rf m⟩
theorem T_count {z m : zV} {S : aS} (R : RC0 z S) (I : Iv S) (W : RW z (wl S.1)) (Q : RM0 m S) (hh : z.1 42 5 = m.1 0 3) (ht : z.1 40 1 = m.1 0 11) (a : Int32) : ∃ r m', f_X3_count z a = some r ∧ f_X4_count m a = some (r, m') ∧ frV m m' := by
  rw [f_X3_count, f_X4_count]
  by_cases c0 : a = nI 0
  · rw [if_pos c0, if_pos c0, X0_cellsWithLetters R I, X4_letterCells Q I, ob_eq, ob_eq]
    exact ⟨_, m, rfl, rfl, frV_rf m⟩
  rw [if_neg c0, if_neg c0]
  by_cases c1 : a = nI 1
  · obtain ⟨m', e, W', F, Q'⟩ := X4_finds Q I
    rw [if_pos c1, if_pos c1, RW_n W, f_X4_wordsNow, e, ob_eq, RV_n W', bd2_eq]
    exact ⟨_, m', rfl, rfl, F⟩
  rw [if_neg c1, if_neg c1]
  by_cases c2 : a = nI 2
  · rw [if_pos c2, if_pos c2, rA_in (by omega) (by omega), R.2.2.2.2.2.1, Q.2.2.2.2.2.1]
    exact ⟨_, m, rfl, rfl, frV_rf m⟩
  rw [if_neg c2, if_neg c2]
  by_cases c3 : a = nI 3
  · rw [if_pos c3, if_pos c3, rA_in (by omega) (by omega), R.2.2.2.2.2.2.2.2.1, Q.2.2.2.2.2.2.2.2.1]
    exact ⟨_, m, rfl, rfl, frV_rf m⟩
  rw [if_neg c3, if_neg c3]
  by_cases c4 : a = nI 4
  · rw [if_pos c4, if_pos c4, X0_numbersInGrid R I, X4_numbers0 Q I, ob_eq, ob_eq]
    exact ⟨_, m, rfl, rfl, frV_rf m⟩
  rw [if_neg c4, if_neg c4]
  by_cases c5 : a = nI 5
  · rw [if_pos c5, if_pos c5, X0_guessedNumbersInGrid R I, X4_numbers1 Q I, ob_eq, ob_eq]
    exact ⟨_, m, rfl, rfl, frV_rf m⟩
  rw [if_neg c5, if_neg c5]
  by_cases c6 : a = nI 6
  · rw [if_pos c6, if_pos c6, X0_guessedCells R I, X4_guessedCells Q I, ob_eq, ob_eq]
    exact ⟨_, m, rfl, rfl, frV_rf m⟩
  rw [if_neg c6, if_neg c6]
  by_cases c7 : a = nI 7
  · rw [if_pos c7, if_pos c7, X0_isSolved R I, X4_isSolved Q I, ob_eq, X3_oneIf, ob_eq, ob_eq]
    cases solv S <;> exact ⟨_, m, rfl, rfl, frV_rf m⟩
  rw [if_neg c7, if_neg c7]
  by_cases c8 : a = nI 8
  · rw [if_pos c8, if_pos c8, rA_in (by omega) (by omega), R.2.2.2.2.2.2.2.2.2.1, Q.2.2.2.2.2.2.2.2.2.1]
    exact ⟨_, m, rfl, rfl, frV_rf m⟩
  rw [if_neg c8, if_neg c8]
  by_cases c9 : a = nI 9
  · rw [if_pos c9, if_pos c9, rA_in (by omega) (by omega), R.2.2.2.2.2.2.2.2.2.2, Q.2.2.2.2.2.2.2.2.2.2]
    exact ⟨_, m, rfl, rfl, frV_rf m⟩
  rw [if_neg c9, if_neg c9]
  by_cases c10 : a = nI 10
  · rw [if_pos c10, if_pos c10, rA_in (by omega) (by omega), R.2.2.2.2.2.2.1, Q.2.2.2.2.2.2.1]
    exact ⟨_, m, rfl, rfl, frV_rf m⟩
  rw [if_neg c10, if_neg c10]
  by_cases c11 : a = nI 11
  · rw [if_pos c11, if_pos c11, rA_in (by omega) (by omega), R.2.2.2.2.2.2.2.1, Q.2.2.2.2.2.2.2.1]
    exact ⟨_, m, rfl, rfl, frV_rf m⟩
  rw [if_neg c11, if_neg c11]
  by_cases c12 : a = nI 12
  · rw [if_pos c12, if_pos c12, hh]
    exact ⟨_, m, rfl, rfl, frV_rf m⟩
  rw [if_neg c12, if_neg c12]
  by_cases c13 : a = nI 13
  · rw [if_pos c13, if_pos c13, ht]
    exact ⟨_, m, rfl, rfl, frV_rf m⟩
  rw [if_neg c13, if_neg c13]
  exact ⟨_, m, rfl, rfl, frV_rf m⟩
