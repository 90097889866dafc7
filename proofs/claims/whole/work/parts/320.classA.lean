/-! THE CLASS: what its reading functions answer, in the state's words (1) -/
theorem X0_numberOf {z : zV} {S : aS} (R : RC0 z S) (I : Iv S) {l : Nat} (h1 : 1 ≤ l) (h2 : l ≤ 26) : f_X0_numberOf z (nI (96 + l)) = some (nI (num S.2.2.2.1 l)) := by
  have k := I.2.1
  unfold okK at k
  have hb : S.2.2.2.1 0 * (l - 1) ≤ 25 * 25 := Nat.mul_le_mul (by omega) (by omega)
  rw [f_X0_numberOf, R.2.2.2.2.2.2.1, R.2.2.2.2.2.2.2.1, pk_sub (by omega), show 96 + l - 97 = l - 1 by omega, pk_mul, nI_add, pk_rem (by omega) (by omega) (by omega), nI_add]
  rfl
theorem X0_numberAt {z : zV} {S : aS} (R : RC0 z S) (I : Iv S) {c : Nat} (h : c < 49) : f_X0_numberAt z (nI c) = some (nI (nAt S c)) := by
  have hg := I.1 c h
  rw [f_X0_numberAt, rA_in h (by omega), R.1 c h, ifec0 hg]
  by_cases q : S.1 c = 0
  · rw [if_pos q, nAt_0 q]
  · rw [if_neg q, rA_in h (by omega), R.1 c h, ec_pos q, X0_numberOf R I (by omega) hg, ob_eq, nAt_n q]
theorem X0_guessAt {z : zV} {S : aS} (R : RC0 z S) (I : Iv S) {c : Nat} (h : c < 49) : f_X0_guessAt z (nI c) = some (nI (ec (gAt S c))) := by
  have hn := nAt_le S c
  rw [f_X0_guessAt, X0_numberAt R I h, ob_eq, X3_isNumber, ob_eq, ifb2, inR_nI (by omega)]
  by_cases q : S.1 c = 0
  · rw [if_neg (by rw [nAt_0 q]; decide), gAt_0 q]; rfl
  · have := nAt_pos q
    rw [if_pos (by simp; omega), rA_in (by omega) (by omega), R.2.1 _ this hn, gAt_n q]
theorem X0_numberGuessedAs {z : zV} {S : aS} (R : RC0 z S) (I : Iv S) {l : Nat} (hl : l ≤ 26) : f_X0_numberGuessedAs z (nI (ec l)) = some (nI (ngA S l)) := by
  rw [f_X0_numberGuessedAs, ifec0 hl]
  by_cases q : l = 0
  · rw [if_pos q, ngA, if_pos q]
  · rw [if_neg q, ngA, if_neg q]
    have hle := fst1_le (fun k => S.2.1 (k + 1) == l) 26
    refine lp_up (fun f k => l_X0_numberGuessedAs_8 z f (nI (ec l)) (nI (k + 1))) _ (fst1 (fun k => S.2.1 (k + 1) == l) 26) ?_ ?_ 1000 0 (by omega) (by omega)
    · intro f
      rw [l_X0_numberGuessedAs_8]
      by_cases a : fst1 (fun k => S.2.1 (k + 1) == l) 26 < 26
      · have hy := fst1_yes a
        simp only [beq_iff_eq] at hy
        rw [iflt_f (by omega) (by omega), rA_in (by omega) (by omega), R.2.1 _ (by omega) (by omega), hy, if_pos rfl, if_pos a]
      · rw [iflt_t (by omega) (by omega), if_neg a]
    · intro f k hk
      have hy := fst1_no hk
      simp only [beq_eq_false_iff_ne] at hy
      rw [l_X0_numberGuessedAs_8, iflt_f (by omega) (by omega), rA_in (by omega) (by omega), R.2.1 _ (by omega) (by omega), ifec (I.2.2.1 _ (by omega) (by omega)) hl, if_neg hy, nI_add]
theorem X3_isGuessOfAnother {z : zV} {S : aS} (R : RC0 z S) (I : Iv S) {l n : Nat} (h0 : l ≠ 0) (hl : l ≤ 26) (hn : n ≤ 26) : f_X3_isGuessOfAnother z (nI (ec l)) (nI n) = some (b2 (otherG S l n)) := by
  have := ngA_le S l
  rw [f_X3_isGuessOfAnother, X0_numberGuessedAs R I hl, ob_eq, otherG_ngA I h0]
  by_cases q : ngA S l = 0
  · rw [ifeq_t q, rB0, q]; rfl
  · rw [ifeq_f q (by omega) (by omega)]
    by_cases q2 : ngA S l = n
    · rw [ifeq_t q2, rB0, q2]; simp [b2]
    · rw [ifeq_f q2 (by omega) (by omega), rB1]; simp [q, q2, b2]
/-- a letter that is none is the guess of no other -/
theorem X3_isGuessOfAnother0 {z : zV} {S : aS} (R : RC0 z S) (I : Iv S) {n : Nat} : f_X3_isGuessOfAnother z (nI 0) (nI n) = some (nI 0) := by
  rw [f_X3_isGuessOfAnother, f_X0_numberGuessedAs, if_pos rfl, ob_eq, if_pos rfl, rB0]
theorem X0_cellsWith {z : zV} {S : aS} (R : RC0 z S) (I : Iv S) {n : Nat} (hn : n ≤ 26) : f_X0_cellsWith z (nI n) = some (nI (cw S n)) := by
  rw [f_X0_cellsWith]
  refine lp_up (fun f k => l_X0_cellsWith_4 z f (nI n) (nI (cn (fun c => nAt S c == n) k)) (nI k)) _ 49 ?_ ?_ 1000 0 (by omega) (by omega)
  · intro f
    rw [l_X0_cellsWith_4, ifle_t (by omega) (by omega)]
    rfl
  · intro f k hk
    have := nAt_le S k
    rw [l_X0_cellsWith_4, ifle_f (by omega) (by omega), X0_numberAt R I hk, ob_eq]
    by_cases q : nAt S k = n
    · rw [ifeq_t q, nI_add, nI_add, cn_t (by simp [q])]
    · rw [ifeq_f q (by omega) (by omega), nI_add, cn_f (by simp [q])]
theorem X0_priceOf {z : zV} {S : aS} (R : RC0 z S) (I : Iv S) {n : Nat} (hn : n ≤ 26) : f_X0_priceOf z (nI n) = some (nI (pr S n)) := by
  have := cw_le S n
  rw [f_X0_priceOf, X0_cellsWith R I hn, ob_eq, nI_add]
  unfold pr
  by_cases q : 1 + cw S n < 9
  · rw [iflt_t q (by omega), if_pos q]
  · rw [iflt_f (by omega) (by omega), if_neg q]
def lt (sc : Nat → Nat) (n : Nat) : Nat := fst1 (fun k => num sc (k + 1) == n) 26 + 1
theorem lt_spec {S : aS} (I : Iv S) {n : Nat} (h1 : 1 ≤ n) (h2 : n ≤ 26) : 1 ≤ lt S.2.2.2.1 n ∧ lt S.2.2.2.1 n ≤ 26 ∧ num S.2.2.2.1 (lt S.2.2.2.1 n) = n := by
  obtain ⟨l, a, b, e⟩ := num_surj I.2.1 h1 h2
  have hlt : fst1 (fun k => num S.2.2.2.1 (k + 1) == n) 26 < 26 := by
    rcases Nat.lt_or_ge (fst1 (fun k => num S.2.2.2.1 (k + 1) == n) 26) 26 with q | q
    · exact q
    · have := fst1_no (p := fun k => num S.2.2.2.1 (k + 1) == n) (n := 26) (k := l - 1) (by omega)
      rw [show l - 1 + 1 = l by omega] at this
      simp [e] at this
  have hy := fst1_yes hlt
  simp only [beq_iff_eq] at hy
  unfold lt
  exact ⟨by omega, by omega, hy⟩
theorem X0_letterOf {z : zV} {S : aS} (R : RC0 z S) (I : Iv S) {n : Nat} (h1 : 1 ≤ n) (h2 : n ≤ 26) : f_X0_letterOf z (nI n) = some (nI (ec (lt S.2.2.2.1 n))) := by
  obtain ⟨a, b, e⟩ := lt_spec I h1 h2
  rw [f_X0_letterOf, ec_pos (by omega)]
  refine lp_up (fun f k => l_X0_letterOf_3 z f (nI n) (nI (97 + k))) _ (lt S.2.2.2.1 n - 1) ?_ ?_ 1000 0 (by omega) (by omega)
  · intro f
    rw [l_X0_letterOf_3, iflt_f (by omega) (by omega), show 97 + (lt S.2.2.2.1 n - 1) = 96 + lt S.2.2.2.1 n by omega, X0_numberOf R I a b, ob_eq, ifeq_t e]
  · intro f k hk
    have hy := fst1_no (p := fun k => num S.2.2.2.1 (k + 1) == n) (n := 26) (k := k) (by unfold lt at hk; omega)
    simp only [beq_eq_false_iff_ne] at hy
    have hm := num_in S.2.2.2.1 (k + 1)
    rw [l_X0_letterOf_3, iflt_f (by omega) (by omega), show 97 + k = 96 + (k + 1) by omega, X0_numberOf R I (by omega) (by omega), ob_eq, ifeq_f hy (by omega) (by omega), nI_add, show 96 + (k + 1) + 1 = 97 + (k + 1) by omega]
def gcs (S : aS) : Nat := cn (fun c => !(gAt S c == 0)) 49
theorem X0_guessedCells {z : zV} {S : aS} (R : RC0 z S) (I : Iv S) : f_X0_guessedCells z = some (nI (gcs S)) := by
  rw [f_X0_guessedCells]
  refine lp_up (fun f k => l_X0_guessedCells_4 z f (nI (cn (fun c => !(gAt S c == 0)) k)) (nI k)) _ 49 ?_ ?_ 1000 0 (by omega) (by omega)
  · intro f
    rw [l_X0_guessedCells_4, ifle_t (by omega) (by omega)]
    rfl
  · intro f k hk
    have := gAt_le I k
    rw [l_X0_guessedCells_4, ifle_f (by omega) (by omega), X0_guessAt R I hk, ob_eq, ifec0 this]
    by_cases q : gAt S k = 0
    · rw [if_pos q, nI_add, cn_f (by simp [q])]
    · rw [if_neg q, nI_add, nI_add, cn_t (by simp [q])]
def lcs (S : aS) : Nat := cn (fun c => !(S.1 c == 0)) 49
theorem lcs_cw (S : aS) : 49 - cw S 0 = lcs S := by
  have h1 := cn_not (fun c => nAt S c == 0) 49
  have h2 : cn (fun c => !(nAt S c == 0)) 49 = lcs S := cn_cong (fun c _ => by
    by_cases q : S.1 c = 0
    · rw [nAt_0 q, q]
    · have := nAt_pos q
      have h3 : (nAt S c == 0) = false := by simp; omega
      rw [h3]
      simp [q])
  unfold cw
  omega
theorem X0_cellsWithLetters {z : zV} {S : aS} (R : RC0 z S) (I : Iv S) : f_X0_cellsWithLetters z = some (nI (lcs S)) := by
  rw [f_X0_cellsWithLetters, X0_cellsWith R I (by omega), ob_eq, pk_sub (cw_le S 0), lcs_cw]
def nigs (S : aS) : Nat := cn (fun k => !(cw S (k + 1) == 0)) 26
def gnigs (S : aS) : Nat := cn (fun k => !(S.2.1 (k + 1) == 0) && !(cw S (k + 1) == 0)) 26
theorem X0_numbersInGrid {z : zV} {S : aS} (R : RC0 z S) (I : Iv S) : f_X0_numbersInGrid z = some (nI (nigs S)) := by
  rw [f_X0_numbersInGrid]
  refine lp_up (fun f k => l_X0_numbersInGrid_4 z f (nI (cn (fun k => !(cw S (k + 1) == 0)) k)) (nI (k + 1))) _ 26 ?_ ?_ 1000 0 (by omega) (by omega)
  · intro f
    rw [l_X0_numbersInGrid_4, iflt_t (by omega) (by omega)]
    rfl
  · intro f k hk
    have := cw_le S (k + 1)
    rw [l_X0_numbersInGrid_4, iflt_f (by omega) (by omega), X0_cellsWith R I (by omega), ob_eq]
    by_cases q : cw S (k + 1) = 0
    · rw [ifle_t (by omega) (by omega), nI_add, cn_f (by simp [q])]
    · rw [ifle_f (by omega) (by omega), nI_add, nI_add, cn_t (by simp [q])]
theorem X0_guessedNumbersInGrid {z : zV} {S : aS} (R : RC0 z S) (I : Iv S) : f_X0_guessedNumbersInGrid z = some (nI (gnigs S)) := by
  rw [f_X0_guessedNumbersInGrid]
  refine lp_up (fun f k => l_X0_guessedNumbersInGrid_4 z f (nI (cn (fun k => !(S.2.1 (k + 1) == 0) && !(cw S (k + 1) == 0)) k)) (nI (k + 1))) _ 26 ?_ ?_ 1000 0 (by omega) (by omega)
  · intro f
    rw [l_X0_guessedNumbersInGrid_4, iflt_t (by omega) (by omega)]
    rfl
  · intro f k hk
    have := cw_le S (k + 1)
    rw [l_X0_guessedNumbersInGrid_4, iflt_f (by omega) (by omega), rA_in (by omega) (by omega), R.2.1 _ (by omega) (by omega), ifec0 (I.2.2.1 _ (by omega) (by omega))]
    by_cases q0 : S.2.1 (k + 1) = 0
    · rw [if_pos q0, nI_add, cn_f (by simp [q0])]
    · rw [if_neg q0, X0_cellsWith R I (by omega), ob_eq]
      by_cases q : cw S (k + 1) = 0
      · rw [ifle_t (by omega) (by omega), nI_add, cn_f (by simp [q])]
      · rw [ifle_f (by omega) (by omega), nI_add, nI_add, cn_t (by simp [q, q0])]
def solv (S : aS) : Bool := allB (fun c => gAt S c == S.1 c) 49 && !(lcs S == 0)
theorem X0_isSolved {z : zV} {S : aS} (R : RC0 z S) (I : Iv S) : f_X0_isSolved z = some (b2 (solv S)) := by
  rw [f_X0_isSolved]
  have hle := fst1_le (fun c => !(gAt S c == S.1 c)) 49
  refine lp_up (fun f k => l_X0_isSolved_2 z f (nI k)) _ (fst1 (fun c => !(gAt S c == S.1 c)) 49) ?_ ?_ 1000 0 (by omega) (by omega)
  · intro f
    rw [l_X0_isSolved_2]
    unfold solv
    by_cases a : fst1 (fun c => !(gAt S c == S.1 c)) 49 < 49
    · have hy := fst1_yes a
      have hy2 : (gAt S (fst1 (fun c => !(gAt S c == S.1 c)) 49) == S.1 (fst1 (fun c => !(gAt S c == S.1 c)) 49)) = false := by simpa using hy
      rw [ifle_f (by omega) (by omega), X0_guessAt R I a, ob_eq, rA_in a (by omega), R.1 _ a, ifec (gAt_le I _) (I.1 _ a), if_neg (by simpa using hy2), rB0, allB_f (p := fun c => gAt S c == S.1 c) a hy2]
      rfl
    · have hc : lcs S ≤ 49 := cn_le _ _
      rw [ifle_t (by omega) (by omega), X0_cellsWithLetters R I, ob_eq, allB_t (fun k hk => by simpa using fst1_no (p := fun c => !(gAt S c == S.1 c)) (n := 49) (k := k) (by omega))]
      by_cases q : lcs S = 0
      · rw [ifle_t (by omega) (by omega), rB0]; simp [q, b2]
      · rw [ifle_f (by omega) (by omega), rB1]; simp [q, b2]
  · intro f k hk
    have hy := fst1_no hk
    rw [l_X0_isSolved_2, ifle_f (by omega) (by omega), X0_guessAt R I (by omega), ob_eq, rA_in (by omega) (by omega), R.1 _ (by omega), ifec (gAt_le I _) (I.1 _ (by omega)), if_pos (by simpa using hy), nI_add]
theorem X0_listedLetter {z : zV} {S : aS} (R : RC0 z S) (I : Iv S) {i j : Nat} (hi : i < S.2.2.2.1 5) (hj : j < S.2.2.2.2 i 0) : f_X0_listedLetter z (nI i) (nI j) = some (nI (ec (S.2.2.2.2 i (j + 1)))) := by
  have h1 := I.2.2.2.2.2.2.1
  have h2 := (I.2.2.2.2.2.2.2 i hi).2.1
  rw [f_X0_listedLetter, pk_mul, nI_add, rA_in (by omega) (by omega), R.2.2.2.2.1 i j hi hj]
