/-! THE MODEL: what its reading functions answer, in the same words (1) -/
theorem X4_isNumber (m : zV) (a : Int32) : f_X4_isNumber m a = some (b2 (inR a 1 26)) := by
  rw [f_X4_isNumber, X4_inL m a (by omega) (by omega), ob_eq, rB_b2]
  rfl
theorem X4_numberOf {m : zV} {S : aS} (R : RM0 m S) (I : Iv S) {l : Nat} (h1 : 1 ≤ l) (h2 : l ≤ 26) : f_X4_numberOf m (nI (l - 1)) = some (nI (num S.2.2.2.1 l)) := by
  have k := I.2.1
  unfold okK at k
  have hb : S.2.2.2.1 0 * (l - 1) ≤ 25 * 25 := Nat.mul_le_mul (by omega) (by omega)
  rw [f_X4_numberOf, rA_in (by omega) (by omega), R.2.2.2.2.2.2.1, rA_in (by omega) (by omega), R.2.2.2.2.2.2.2.1, pk_mul, nI_add, pk_rem (by omega) (by omega) (by omega), nI_add]
  rfl
theorem X4_numberAt {m : zV} {S : aS} (R : RM0 m S) (I : Iv S) {c : Nat} (h : c < 49) : f_X4_numberAt m (nI c) = some (if S.1 c = 0 then -5 else nI (nAt S c)) := by
  have hg := I.1 c h
  rw [f_X4_numberAt, nI_add, Nat.zero_add, rA_in (by omega) (by omega), R.1 c h, ifem0 hg]
  by_cases q : S.1 c = 0
  · rw [if_pos q, if_pos q]
  · rw [if_neg q, if_neg q, rA_in (by omega) (by omega), R.1 c h, eM_pos q, X4_numberOf R I (by omega) hg, ob_eq, nAt_n q]
theorem X4_numberAtN {m : zV} {S : aS} (R : RM0 m S) (I : Iv S) {c : Nat} (h : c < 49) (q : S.1 c ≠ 0) : f_X4_numberAt m (nI c) = some (nI (nAt S c)) := by
  rw [X4_numberAt R I h, if_neg q]
theorem X4_guessAt {m : zV} {S : aS} (R : RM0 m S) (I : Iv S) {c : Nat} (h : c < 49) : f_X4_guessAt m (nI c) = some (eM (gAt S c)) := by
  have hg := I.1 c h
  have hn := nAt_le S c
  rw [f_X4_guessAt, nI_add, Nat.zero_add, rA_in (by omega) (by omega), R.1 c h, ifem0 hg]
  by_cases q : S.1 c = 0
  · rw [if_pos q, gAt_0 q]; rfl
  · have := nAt_pos q
    rw [if_neg q, X4_numberAtN R I h q, ob_eq, nI_add, rA_in (by omega) (by omega), R.2.1 _ this hn, gAt_n q]
theorem m5_ne {n : Nat} (h : n ≤ 26) : (-5 : Int32) ≠ nI n := fun q => nI_neM (a := n) (v := -5) (by omega) (by decide) q.symm
theorem X4_cellsWith {m : zV} {S : aS} (R : RM0 m S) (I : Iv S) {n : Nat} (h1 : 1 ≤ n) (hn : n ≤ 26) : f_X4_cellsWith m (nI n) = some (nI (cw S n)) := by
  rw [f_X4_cellsWith]
  refine lp_up (fun f k => l_X4_cellsWith_4 m f (nI n) (nI (cn (fun c => nAt S c == n) k)) (nI k)) _ 49 ?_ ?_ 1000 0 (by omega) (by omega)
  · intro f
    rw [l_X4_cellsWith_4, ifle_t (by omega) (by omega)]
    rfl
  · intro f k hk
    have := nAt_le S k
    rw [l_X4_cellsWith_4, ifle_f (by omega) (by omega), X4_numberAt R I hk, ob_eq]
    by_cases q0 : S.1 k = 0
    · rw [if_pos q0, if_neg (m5_ne hn), nI_add, nI_add, cn_f (by rw [nAt_0 q0]; simp; omega)]
      rfl
    · rw [if_neg q0]
      by_cases q : nAt S k = n
      · rw [ifeq_t q, nI_add, nI_add, cn_t (by simp [q])]
      · rw [ifeq_f q (by omega) (by omega), nI_add, nI_add, cn_f (by simp [q])]
        rfl
theorem X4_priceOf {m : zV} {S : aS} (R : RM0 m S) (I : Iv S) {n : Nat} (h1 : 1 ≤ n) (hn : n ≤ 26) : f_X4_priceOf m (nI n) = some (nI (pr S n)) := by
  have := cw_le S n
  rw [f_X4_priceOf, X4_cellsWith R I h1 hn, ob_eq, nI_add]
  unfold pr
  by_cases q : 1 + cw S n < 9
  · rw [ifle_f q (by omega), if_pos q]
  · rw [ifle_t (by omega) (by omega), if_neg q]
theorem X4_isGuessOfAnother {m : zV} {S : aS} (R : RM0 m S) (I : Iv S) {l n : Nat} (hl : l ≤ 26) (hn : n ≤ 26) : f_X4_isGuessOfAnother m (eM l) (nI n) = some (b2 (otherG S l n)) := by
  rw [f_X4_isGuessOfAnother]
  refine lp_up (fun f k => l_X4_isGuessOfAnother_5 m f (eM l) (nI n) (b2 (anyB (fun k => S.2.1 (k + 1) == l && !(k + 1 == n)) k)) (nI (k + 1))) _ 26 ?_ ?_ 1000 0 (by omega) (by omega)
  · intro f
    rw [l_X4_isGuessOfAnother_5, iflt_t (by omega) (by omega), rB_b2]
    rfl
  · intro f k hk
    rw [l_X4_isGuessOfAnother_5, iflt_f (by omega) (by omega), ifb2, nI_add]
    show _ = l_X4_isGuessOfAnother_5 m f (eM l) (nI n) (b2 (anyB (fun k => S.2.1 (k + 1) == l && !(k + 1 == n)) k || (S.2.1 (k + 1) == l && !(k + 1 == n)))) (nI (k + 1 + 1))
    by_cases q : anyB (fun k => S.2.1 (k + 1) == l && !(k + 1 == n)) k = true
    · rw [if_pos q, q, Bool.true_or]; rfl
    · have q' : anyB (fun k => S.2.1 (k + 1) == l && !(k + 1 == n)) k = false := by simpa using q
      rw [if_neg q, q', Bool.false_or]
      by_cases e : k + 1 = n
      · rw [ifeq_t e]; simp [e, b2]
      · rw [ifeq_f e (by omega) (by omega), nI_add, rA_in (by omega) (by omega), R.2.1 _ (by omega) (by omega), ifem (I.2.2.1 _ (by omega) (by omega)) hl]
        by_cases e2 : S.2.1 (k + 1) = l
        · rw [if_pos e2]; simp [e, e2, b2]
        · rw [if_neg e2]; simp [e, e2, b2]
theorem X4_coded (m : zV) {k : Nat} (h : k ≤ 26) : f_X4_coded m (eM k) = some (if k = 0 then -5 else nI (ec k)) := by
  rw [f_X4_coded, ifem0 h]
  by_cases q : k = 0
  · rw [if_pos q, if_pos q]
  · rw [if_neg q, if_neg q, eM_pos q, nI_add, ec_pos q, show 97 + (k - 1) = 96 + k by omega]
theorem X4_letterOf {m : zV} {S : aS} (R : RM0 m S) (I : Iv S) {n : Nat} (h1 : 1 ≤ n) (h2 : n ≤ 26) : f_X4_letterOf m (nI n) = some (nI (lt S.2.2.2.1 n - 1)) := by
  obtain ⟨a, b, e⟩ := lt_spec I h1 h2
  rw [f_X4_letterOf]
  refine lp_up (fun f k => l_X4_letterOf_2 m f (nI n) (nI k)) _ (lt S.2.2.2.1 n - 1) ?_ ?_ 1000 0 (by omega) (by omega)
  · intro f
    rw [l_X4_letterOf_2, X4_numberOf R I a b, ob_eq, ifeq_t e]
  · intro f k hk
    have hy := fst1_no (p := fun k => num S.2.2.2.1 (k + 1) == n) (n := 26) (k := k) (by unfold lt at hk; omega)
    simp only [beq_eq_false_iff_ne] at hy
    have hm := num_in S.2.2.2.1 (k + 1)
    have hx := X4_numberOf R I (l := k + 1) (by omega) (by omega)
    rw [show k + 1 - 1 = k by omega] at hx
    rw [l_X4_letterOf_2, hx, ob_eq, ifeq_f hy (by omega) (by omega), nI_add]
theorem X4_guessedCells {m : zV} {S : aS} (R : RM0 m S) (I : Iv S) : f_X4_guessedCells m = some (nI (gcs S)) := by
  rw [f_X4_guessedCells]
  refine lp_up (fun f k => l_X4_guessedCells_4 m f (nI (cn (fun c => !(gAt S c == 0)) k)) (nI k)) _ 49 ?_ ?_ 1000 0 (by omega) (by omega)
  · intro f
    rw [l_X4_guessedCells_4, ifle_t (by omega) (by omega)]
    rfl
  · intro f k hk
    have := gAt_le I k
    rw [l_X4_guessedCells_4, ifle_f (by omega) (by omega), X4_guessAt R I hk, ob_eq, ifem0 this]
    by_cases q : gAt S k = 0
    · rw [if_pos q, nI_add, nI_add, cn_f (by simp [q])]
      rfl
    · rw [if_neg q, nI_add, nI_add, cn_t (by simp [q])]
theorem X4_letterCells {m : zV} {S : aS} (R : RM0 m S) (I : Iv S) : f_X4_letterCells m = some (nI (lcs S)) := by
  rw [f_X4_letterCells]
  refine lp_up (fun f k => l_X4_letterCells_4 m f (nI (cn (fun c => !(S.1 c == 0)) k)) (nI k)) _ 49 ?_ ?_ 1000 0 (by omega) (by omega)
  · intro f
    rw [l_X4_letterCells_4, ifle_t (by omega) (by omega)]
    rfl
  · intro f k hk
    rw [l_X4_letterCells_4, ifle_f (by omega) (by omega), nI_add, Nat.zero_add, rA_in (by omega) (by omega), R.1 k hk, ifem0 (I.1 k hk)]
    by_cases q : S.1 k = 0
    · rw [if_pos q, nI_add, nI_add, cn_f (by simp [q])]
      rfl
    · rw [if_neg q, nI_add, nI_add, cn_t (by simp [q])]
theorem X4_numbers0 {m : zV} {S : aS} (R : RM0 m S) (I : Iv S) : f_X4_numbers m (nI 0) = some (nI (nigs S)) := by
  rw [f_X4_numbers]
  refine lp_up (fun f k => l_X4_numbers_4 m f (nI 0) (nI (cn (fun k => !(cw S (k + 1) == 0)) k)) (nI (k + 1))) _ 26 ?_ ?_ 1000 0 (by omega) (by omega)
  · intro f
    rw [l_X4_numbers_4, iflt_t (by omega) (by omega)]
    rfl
  · intro f k hk
    have := cw_le S (k + 1)
    rw [l_X4_numbers_4, iflt_f (by omega) (by omega), X4_cellsWith R I (by omega) (by omega), ob_eq]
    by_cases q : cw S (k + 1) = 0
    · rw [ifle_t (by omega) (by omega), nI_add, nI_add, cn_f (by simp [q])]
      rfl
    · rw [ifle_f (by omega) (by omega), if_pos rfl, nI_add, nI_add, cn_t (by simp [q])]
theorem X4_numbers1 {m : zV} {S : aS} (R : RM0 m S) (I : Iv S) : f_X4_numbers m (nI 1) = some (nI (gnigs S)) := by
  rw [f_X4_numbers]
  refine lp_up (fun f k => l_X4_numbers_4 m f (nI 1) (nI (cn (fun k => !(S.2.1 (k + 1) == 0) && !(cw S (k + 1) == 0)) k)) (nI (k + 1))) _ 26 ?_ ?_ 1000 0 (by omega) (by omega)
  · intro f
    rw [l_X4_numbers_4, iflt_t (by omega) (by omega)]
    rfl
  · intro f k hk
    have := cw_le S (k + 1)
    rw [l_X4_numbers_4, iflt_f (by omega) (by omega), X4_cellsWith R I (by omega) (by omega), ob_eq]
    by_cases q : cw S (k + 1) = 0
    · rw [ifle_t (by omega) (by omega), nI_add, nI_add, cn_f (by simp [q])]
      rfl
    · rw [ifle_f (by omega) (by omega), ifeq_f (by omega) (by omega) (by omega), nI_add, rA_in (by omega) (by omega), R.2.1 _ (by omega) (by omega), ifem0 (I.2.2.1 _ (by omega) (by omega))]
      by_cases q0 : S.2.1 (k + 1) = 0
      · rw [if_pos q0, nI_add, nI_add, cn_f (by simp [q0])]
        rfl
      · rw [if_neg q0, nI_add, nI_add, cn_t (by simp [q, q0])]
theorem X4_isSolved {m : zV} {S : aS} (R : RM0 m S) (I : Iv S) : f_X4_isSolved m = some (b2 (solv S)) := by
  have hc : lcs S ≤ 49 := cn_le _ _
  have key : ∀ b : Bool, l_X4_isSolved_15 m 1000 (b2 b) (nI 0) = some (b2 (b && allB (fun c => gAt S c == S.1 c) 49)) := by
    intro b
    have h0 : b2 b = b2 (b && allB (fun c => gAt S c == S.1 c) 0) := by rw [allB, Bool.and_true]
    rw [h0]
    refine lp_up (fun f k => l_X4_isSolved_15 m f (b2 (b && allB (fun c => gAt S c == S.1 c) k)) (nI k)) _ 49 ?_ ?_ 1000 0 (by omega) (by omega)
    · intro f
      rw [l_X4_isSolved_15, ifle_t (by omega) (by omega), rB_b2]
    · intro f k hk
      rw [l_X4_isSolved_15, ifle_f (by omega) (by omega), ifb2, nI_add]
      show _ = l_X4_isSolved_15 m f (b2 (b && (allB (fun c => gAt S c == S.1 c) k && (gAt S k == S.1 k)))) (nI (k + 1))
      rw [← Bool.and_assoc]
      by_cases q : (b && allB (fun c => gAt S c == S.1 c) k) = true
      · rw [if_pos q, q, Bool.true_and, nI_add, Nat.zero_add, rA_in (by omega) (by omega), R.1 k hk, ifem0 (I.1 k hk)]
        by_cases q0 : S.1 k = 0
        · rw [if_pos q0, gAt_0 q0, q0]; rfl
        · rw [if_neg q0, X4_guessAt R I hk, ob_eq, rA_in (by omega) (by omega), R.1 k hk, ifem (gAt_le I k) (I.1 k hk)]
          by_cases e : gAt S k = S.1 k
          · rw [if_pos e]; simp [e, b2]
          · rw [if_neg e]; simp [e, b2]
      · have q' : (b && allB (fun c => gAt S c == S.1 c) k) = false := by simpa using q
        rw [if_neg q, q', Bool.false_and, nI_add]; rfl
  rw [f_X4_isSolved, X4_letterCells R I, ob_eq]
  unfold solv
  by_cases q : lcs S = 0
  · rw [ifle_t (by omega) (by omega)]
    have := key false
    rw [b2_f] at this
    rw [this]; simp [q]
  · rw [ifle_f (by omega) (by omega)]
    have := key true
    rw [b2_t] at this
    have e : (lcs S == 0) = false := by simpa using q
    rw [this, e]; simp
theorem X4_sizeOf {m : zV} {S : aS} (R : RM0 m S) (I : Iv S) {i : Nat} (hi : i < S.2.2.2.1 5) : f_X4_sizeOf m (nI i) = some (nI (S.2.2.2.2 i 0)) := by
  have h1 := I.2.2.2.2.2.2.1
  rw [f_X4_sizeOf, pk_mul, nI_add, rA_in (by omega) (by omega), R.2.2.2.1 i hi]
theorem X4_letterOfListed {m : zV} {S : aS} (R : RM0 m S) (I : Iv S) {i j : Nat} (hi : i < S.2.2.2.1 5) (hj : j < S.2.2.2.2 i 0) : f_X4_letterOfListed m (nI i) (nI j) = some (eM (S.2.2.2.2 i (j + 1))) := by
  have h1 := I.2.2.2.2.2.2.1
  have h2 := (I.2.2.2.2.2.2.2 i hi).2.1
  rw [f_X4_letterOfListed, pk_mul, nI_add, nI_add, nI_add, rA_in (by omega) (by omega), R.2.2.2.2.1 i j hi hj]
theorem X4_isListed {m : zV} {S : aS} (R : RM0 m S) (I : Iv S) (a : Int32) : f_X4_isListed m a = some (b2 (inR a 0 ((S.2.2.2.1 5 : Int) - 1))) := by
  have h1 := I.2.2.2.2.2.2.1
  rw [f_X4_isListed, rA_in (by omega) (by omega), R.2.2.2.2.2.1, X4_inN m a (by omega), ob_eq, rB_b2]
