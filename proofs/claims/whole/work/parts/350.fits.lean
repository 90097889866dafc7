/-! WORDS OF THE GRID AND WORDS OF THE LIST: both sides -/
theorem lp_all {L : Nat → Nat → Option Int32} (p : Nat → Bool) (n : Nat) (hx : ∀ f, L (f + 1) n = some (b2 true)) (hf : ∀ f k, k < n → p k = false → L (f + 2) k = some (b2 false)) (ht : ∀ f k, k < n → p k = true → L (f + 1) k = L f (k + 1)) : ∀ f, n + 1 < f → L f 0 = some (b2 (allB p n)) := by
  have key : ∀ f k, k ≤ n → n - k + 1 < f → (∀ j, j < k → p j = true) → L f k = some (b2 (allB p n)) := by
    intro f
    induction f with
    | zero => intro k _ h; omega
    | succ f ih =>
      intro k hk hfu hp
      rcases Nat.lt_or_ge k n with h | h
      · by_cases q : p k = true
        · rw [ht f k h q]
          exact ih (k + 1) h (by omega) (fun j hj => by
            by_cases e : j = k
            · rw [e]; exact q
            · exact hp j (by omega))
        · have q' : p k = false := by simpa using q
          obtain ⟨f', rfl⟩ : ∃ f', f = f' + 1 := ⟨f - 1, by omega⟩
          rw [hf f' k h q', allB_f h q']
      · have e : k = n := by omega
        subst e
        rw [hx f, allB_t hp]
  intro f hf
  exact key f 0 (Nat.zero_le _) (by omega) (fun j hj => by omega)
theorem lp_fst {α : Type} {L : Nat → Nat → α} (p : Nat → Bool) (n : Nat) (r : Nat → α) (hx : ∀ f, L (f + 1) n = r n) (hf : ∀ f k, k < n → p k = true → L (f + 1) k = r k) (ht : ∀ f k, k < n → p k = false → L (f + 1) k = L f (k + 1)) : ∀ f, n < f → L f 0 = r (fst1 p n) := by
  have hle := fst1_le p n
  intro f hfu
  refine lp_up L _ (fst1 p n) (fun f => ?_) (fun f k hk => ht f k (by omega) (fst1_no hk)) f 0 (by omega) (by omega)
  by_cases h : fst1 p n < n
  · exact hf f _ h (fst1_yes h)
  · have e : fst1 p n = n := by omega
    rw [e]
    exact hx f
theorem lp_cn {L : Nat → Int32 → Nat → Option Int32} (p : Nat → Bool) (n : Nat) (hx : ∀ f v, L (f + 1) v n = some v) (ht : ∀ f a k, k < n → p k = true → L (f + 1) (nI a) k = L f (nI (a + 1)) (k + 1)) (hf : ∀ f a k, k < n → p k = false → L (f + 1) (nI a) k = L f (nI a) (k + 1)) : ∀ f, n < f → L f (nI 0) 0 = some (nI (cn p n)) := by
  intro f hfu
  refine lp_up (fun f k => L f (nI (cn p k)) k) _ n (fun f => hx f _) (fun f k hk => ?_) f 0 (by omega) (by omega)
  by_cases q : p k = true
  · rw [ht f _ k hk q, cn_t q]
  · have q' : p k = false := by simpa using q
    rw [hf f _ k hk q', cn_f q']
def nw (S : aS) : Nat := (wl S.1).length
def wd (S : aS) (w : Nat) : Nat × Nat × Nat := (wl S.1).getD w (0, 0, 0)
def cl (S : aS) (w k : Nat) : Nat := (wd S w).1 + k * (wd S w).2.2
def wn (S : aS) (w : Nat) : Nat := (wd S w).2.1
theorem nw_le (S : aS) : nw S ≤ 28 := wl_len S.1
theorem wd_get {S : aS} {w : Nat} (h : w < nw S) : (wl S.1)[w]? = some (wd S w) := by
  unfold nw at h
  unfold wd
  rw [List.getD_eq_getElem?_getD, List.getElem?_eq_getElem h]
  rfl
theorem wd_PW {S : aS} {w : Nat} (h : w < nw S) : PW S.1 (wd S w) := wl_PW (List.mem_of_getElem? (wd_get h))
theorem wn_in {S : aS} {w : Nat} (h : w < nw S) : 2 ≤ wn S w ∧ wn S w ≤ 7 := ⟨(wd_PW h).1, (wd_PW h).2.1⟩
theorem cl_in {S : aS} {w k : Nat} (h : w < nw S) (hk : k < wn S w) : cl S w k < 49 ∧ S.1 (cl S w k) ≠ 0 := (wd_PW h).2.2.2 k hk
theorem RW_at {z : zV} {S : aS} (W : RW z (wl S.1)) {w : Nat} (h : w < nw S) : z.2.1 37 w = nI (wd S w).1 ∧ z.2.1 38 w = nI (wn S w) ∧ z.2.1 39 w = nI (wd S w).2.2 := W.2 w _ (wd_get h)
theorem RV_at {m : zV} {S : aS} (W : RV m (wl S.1)) {w : Nat} (h : w < nw S) : m.2.1 5 w = nI (wd S w).1 ∧ m.2.1 6 w = nI (wn S w) ∧ m.2.1 7 w = nI (wd S w).2.2 := W.2 w _ (wd_get h)
theorem RW_n {z : zV} {S : aS} (W : RW z (wl S.1)) : z.1 36 3 = nI (nw S) := W.1
theorem RV_n {m : zV} {S : aS} (W : RV m (wl S.1)) : m.1 0 9 = nI (nw S) := W.1
theorem X2_cellOf {z : zV} {S : aS} (W : RW z (wl S.1)) {w : Nat} (h : w < nw S) (k : Nat) : f_X2_cellOf z (nI w) (nI k) = some (nI (cl S w k)) := by
  have h28 := nw_le S
  rw [f_X2_cellOf, rA_in (by omega) (by omega), (RW_at W h).1, rA_in (by omega) (by omega), (RW_at W h).2.2, pk_mul, nI_add]
  rfl
theorem X4_cellOf {m : zV} {S : aS} (W : RV m (wl S.1)) {w : Nat} (h : w < nw S) (k : Nat) : f_X4_cellOf m (nI w) (nI k) = some (nI (cl S w k)) := by
  have h28 := nw_le S
  rw [f_X4_cellOf, rA_in (by omega) (by omega), (RV_at W h).1, rA_in (by omega) (by omega), (RV_at W h).2.2, pk_mul, nI_add, Nat.mul_comm]
  rfl
theorem X3_numberIn {z : zV} {S : aS} (R : RC0 z S) (I : Iv S) (W : RW z (wl S.1)) {w k : Nat} (h : w < nw S) (hk : k < wn S w) : f_X3_numberIn z (nI w) (nI k) = some (nI (nAt S (cl S w k))) := by
  rw [f_X3_numberIn, X2_cellOf W h, ob_eq, X0_numberAt R I (cl_in h hk).1, ob_eq]
theorem X4_numberC {m : zV} {S : aS} (R : RM0 m S) (I : Iv S) {w k : Nat} (h : w < nw S) (hk : k < wn S w) : f_X4_numberAt m (nI (cl S w k)) = some (nI (nAt S (cl S w k))) := X4_numberAtN R I (cl_in h hk).1 (cl_in h hk).2
def fpl (S : aS) (w n : Nat) : Nat := fst1 (fun k => nAt S (cl S w k) == n) (wn S w)
def hasN (S : aS) (w n : Nat) : Bool := anyB (fun k => nAt S (cl S w k) == n) (wn S w)
theorem X3_firstPlaceOf {z : zV} {S : aS} (R : RC0 z S) (I : Iv S) (W : RW z (wl S.1)) {w n : Nat} (h : w < nw S) (hn : n ≤ 26) : f_X3_firstPlaceOf z (nI n) (nI w) = some (nI (fpl S w n)) := by
  have h28 := nw_le S
  have hw := wn_in h
  rw [f_X3_firstPlaceOf]
  refine lp_fst (L := fun f k => l_X3_firstPlaceOf_2 z f (nI n) (nI w) (nI k)) (fun k => nAt S (cl S w k) == n) (wn S w) (fun k => some (nI k)) (fun f => ?_) (fun f k hk q => ?_) (fun f k hk q => ?_) 1000 (by omega)
  · rw [l_X3_firstPlaceOf_2, rA_in (by omega) (by omega), (RW_at W h).2.1, ifle_t (by omega) (by omega)]
  · simp only [beq_iff_eq] at q
    rw [l_X3_firstPlaceOf_2, rA_in (by omega) (by omega), (RW_at W h).2.1, ifle_f (by omega) (by omega), X3_numberIn R I W h hk, ob_eq, ifeq_t q]
  · simp only [beq_eq_false_iff_ne] at q
    have := nAt_le S (cl S w k)
    rw [l_X3_firstPlaceOf_2, rA_in (by omega) (by omega), (RW_at W h).2.1, ifle_f (by omega) (by omega), X3_numberIn R I W h hk, ob_eq, ifeq_f q (by omega) (by omega), nI_add]
theorem X3_hasNumber {z : zV} {S : aS} (R : RC0 z S) (I : Iv S) (W : RW z (wl S.1)) {w n : Nat} (h : w < nw S) (hn : n ≤ 26) : f_X3_hasNumber z (nI w) (nI n) = some (b2 (hasN S w n)) := by
  have h28 := nw_le S
  have hw := wn_in h
  have hle : fpl S w n ≤ wn S w := fst1_le _ _
  rw [f_X3_hasNumber, X3_firstPlaceOf R I W h hn, ob_eq, rA_in (by omega) (by omega), (RW_at W h).2.1, hasN, fst1_any]
  by_cases q : fpl S w n < wn S w
  · rw [ifle_f q (by omega), rB1]
    have : decide (fst1 (fun k => nAt S (cl S w k) == n) (wn S w) < wn S w) = true := decide_eq_true q
    rw [this]; rfl
  · rw [ifle_t (by omega) (by omega), rB0]
    have : decide (fst1 (fun k => nAt S (cl S w k) == n) (wn S w) < wn S w) = false := decide_eq_false q
    rw [this]; rfl
theorem X4_hasNumber {m : zV} {S : aS} (R : RM0 m S) (I : Iv S) (W : RV m (wl S.1)) {w n : Nat} (h : w < nw S) (hn : n ≤ 26) : f_X4_hasNumber m (nI w) (nI n) = some (b2 (hasN S w n)) := by
  have h28 := nw_le S
  have hw := wn_in h
  rw [f_X4_hasNumber]
  refine lp_up (fun f k => l_X4_hasNumber_5 m f (nI w) (nI n) (b2 (anyB (fun k => nAt S (cl S w k) == n) k)) (nI k)) _ (wn S w) (fun f => ?_) (fun f k hk => ?_) 1000 0 (by omega) (by omega)
  · rw [l_X4_hasNumber_5, rA_in (by omega) (by omega), (RV_at W h).2.1, ifle_t (by omega) (by omega), rB_b2]
    rfl
  · rw [l_X4_hasNumber_5, rA_in (by omega) (by omega), (RV_at W h).2.1, ifle_f (by omega) (by omega), ifb2, nI_add]
    show _ = l_X4_hasNumber_5 m f (nI w) (nI n) (b2 (anyB (fun k => nAt S (cl S w k) == n) k || nAt S (cl S w k) == n)) (nI (k + 1))
    by_cases q : anyB (fun k => nAt S (cl S w k) == n) k = true
    · rw [if_pos q, q, Bool.true_or]; rfl
    · have q' : anyB (fun k => nAt S (cl S w k) == n) k = false := by simpa using q
      have := nAt_le S (cl S w k)
      rw [if_neg q, q', Bool.false_or, X4_cellOf W h, ob_eq, X4_numberC R I h hk, ob_eq]
      by_cases e : nAt S (cl S w k) = n
      · rw [ifeq_t e]; simp [e, b2]
      · rw [ifeq_f e (by omega) (by omega)]; simp [e, b2]
def wws (S : aS) (n : Nat) : Nat := cn (fun w => hasN S w n) (nw S)
theorem X3_wordsWith {z : zV} {S : aS} (R : RC0 z S) (I : Iv S) (W : RW z (wl S.1)) {n : Nat} (hn : n ≤ 26) : f_X3_wordsWith z (nI n) = some (nI (wws S n)) := by
  have h28 := nw_le S
  rw [f_X3_wordsWith]
  refine lp_cn (L := fun f a k => l_X3_wordsWith_4 z f (nI n) a (nI k)) (fun w => hasN S w n) (nw S) (fun f v => ?_) (fun f a k hk q => ?_) (fun f a k hk q => ?_) 1000 (by omega)
  · rw [l_X3_wordsWith_4, RW_n W, ifle_t (by omega) (by omega)]
  · rw [l_X3_wordsWith_4, RW_n W, ifle_f (by omega) (by omega), X3_hasNumber R I W hk hn, ob_eq, ifb2, if_pos q, nI_add, nI_add]
  · rw [l_X3_wordsWith_4, RW_n W, ifle_f (by omega) (by omega), X3_hasNumber R I W hk hn, ob_eq, ifb2, if_neg (by simpa using q), nI_add]
theorem X4_wordsWith8 {m : zV} {S : aS} (R : RM0 m S) (I : Iv S) (W : RV m (wl S.1)) {n : Nat} (hn : n ≤ 26) : l_X4_wordsWith_8 1000 m (nI n) (nI 0) (nI 0) = some (nI (wws S n), m) := by
  have h28 := nw_le S
  refine lp_up (fun f k => l_X4_wordsWith_8 f m (nI n) (nI (cn (fun w => hasN S w n) k)) (nI k)) _ (nw S) (fun f => ?_) (fun f k hk => ?_) 1000 0 (by omega) (by omega)
  · rw [l_X4_wordsWith_8, RV_n W, ifle_t (by omega) (by omega)]
    rfl
  · rw [l_X4_wordsWith_8, RV_n W, ifle_f (by omega) (by omega), X4_hasNumber R I W hk hn, ob_eq, ifb2]
    by_cases q : hasN S k n = true
    · rw [if_pos q, nI_add, nI_add, cn_t (p := fun w => hasN S w n) q]
    · rw [if_neg q, nI_add, nI_add, cn_f (p := fun w => hasN S w n) (by simpa using q)]
      rfl
def gco (S : aS) (w : Nat) : Nat := cn (fun k => !(gAt S (cl S w k) == 0)) (wn S w)
theorem X3_guessedCellsOf {z : zV} {S : aS} (R : RC0 z S) (I : Iv S) (W : RW z (wl S.1)) {w : Nat} (h : w < nw S) : f_X3_guessedCellsOf z (nI w) = some (nI (gco S w)) := by
  have h28 := nw_le S
  have hw := wn_in h
  rw [f_X3_guessedCellsOf]
  refine lp_cn (L := fun f a k => l_X3_guessedCellsOf_4 z f (nI w) a (nI k)) (fun k => !(gAt S (cl S w k) == 0)) (wn S w) (fun f v => ?_) (fun f a k hk q => ?_) (fun f a k hk q => ?_) 1000 (by omega)
  · rw [l_X3_guessedCellsOf_4, rA_in (by omega) (by omega), (RW_at W h).2.1, ifle_t (by omega) (by omega)]
  · rw [l_X3_guessedCellsOf_4, rA_in (by omega) (by omega), (RW_at W h).2.1, ifle_f (by omega) (by omega), X2_cellOf W h, ob_eq, X0_guessAt R I (cl_in h hk).1, ob_eq, ifec0 (gAt_le I _), if_neg (by simpa using q), nI_add, nI_add]
  · rw [l_X3_guessedCellsOf_4, rA_in (by omega) (by omega), (RW_at W h).2.1, ifle_f (by omega) (by omega), X2_cellOf W h, ob_eq, X0_guessAt R I (cl_in h hk).1, ob_eq, ifec0 (gAt_le I _), if_pos (by simpa using q), nI_add]
theorem X4_guessedOf {m : zV} {S : aS} (R : RM0 m S) (I : Iv S) (W : RV m (wl S.1)) {w : Nat} (h : w < nw S) : f_X4_guessedOf m (nI w) = some (nI (gco S w)) := by
  have h28 := nw_le S
  have hw := wn_in h
  rw [f_X4_guessedOf]
  refine lp_cn (L := fun f a k => l_X4_guessedOf_4 m f (nI w) a (nI k)) (fun k => !(gAt S (cl S w k) == 0)) (wn S w) (fun f v => ?_) (fun f a k hk q => ?_) (fun f a k hk q => ?_) 1000 (by omega)
  · rw [l_X4_guessedOf_4, rA_in (by omega) (by omega), (RV_at W h).2.1, ifle_t (by omega) (by omega)]
  · rw [l_X4_guessedOf_4, rA_in (by omega) (by omega), (RV_at W h).2.1, ifle_f (by omega) (by omega), X4_cellOf W h, ob_eq, X4_guessAt R I (cl_in h hk).1, ob_eq, ifem0 (gAt_le I _), if_neg (by simpa using q), nI_add, nI_add]
  · rw [l_X4_guessedOf_4, rA_in (by omega) (by omega), (RV_at W h).2.1, ifle_f (by omega) (by omega), X4_cellOf W h, ob_eq, X4_guessAt R I (cl_in h hk).1, ob_eq, ifem0 (gAt_le I _), if_pos (by simpa using q), nI_add, nI_add]
    rfl
/-! fitting -/
def mayB (S : aS) (l n : Nat) : Bool := if S.2.1 n = 0 then !(anyB (fun i => S.2.1 (i + 1) == l) 26) else S.2.1 n == l
def agrB (S : aS) (w i k : Nat) : Bool := allB (fun j => (nAt S (cl S w j) == nAt S (cl S w k)) == (S.2.2.2.2 i (j + 1) == S.2.2.2.2 i (k + 1))) k
def okc (S : aS) (w i k : Nat) : Bool := mayB S (S.2.2.2.2 i (k + 1)) (nAt S (cl S w k)) && agrB S w i k
def fitB (S : aS) (w i : Nat) : Bool := wn S w == S.2.2.2.2 i 0 && allB (okc S w i) (wn S w)
theorem X3_isUnguessed {z : zV} {S : aS} (R : RC0 z S) (I : Iv S) {n : Nat} (h1 : 1 ≤ n) (h2 : n ≤ 26) : f_X3_isUnguessed z (nI n) = some (b2 (S.2.1 n == 0)) := by
  rw [f_X3_isUnguessed, X3_isNumber, ob_eq, ifb2, inR_nI (by omega), if_pos (by simp; omega), rA_in (by omega) (by omega), R.2.1 n h1 h2, ifec0 (I.2.2.1 n h1 h2)]
  by_cases q : S.2.1 n = 0
  · rw [if_pos q, rB1]; simp [q, b2]
  · rw [if_neg q, rB0]; simp [q, b2]
theorem X3_mayStandFor {z : zV} {S : aS} (R : RC0 z S) (I : Iv S) {l n : Nat} (h0 : l ≠ 0) (hl : l ≤ 26) (h1 : 1 ≤ n) (h2 : n ≤ 26) : f_X3_mayStandFor z (nI (ec l)) (nI n) = some (b2 (mayB S l n)) := by
  have hle := ngA_le S l
  rw [f_X3_mayStandFor, X0_numberGuessedAs R I hl, ob_eq, X3_isUnguessed R I h1 h2, ob_eq, ifb2]
  unfold mayB
  by_cases q : S.2.1 n = 0
  · rw [if_pos (by simpa using q), if_pos q, j_X3_mayStandFor_21]
    rcases ngA_cases I h0 with ⟨k, a, b, e1, e2⟩ | ⟨e1, e2⟩
    · rw [e2, ifeq_f (by omega) (by omega) (by omega), rB0, anyB_t (p := fun i => S.2.1 (i + 1) == l) (k := k - 1) (by omega) (by rw [show k - 1 + 1 = k by omega]; simpa using e1)]
      rfl
    · rw [e2, if_pos rfl, rB1, anyB_f (p := fun i => S.2.1 (i + 1) == l) (fun k hk => by simpa using e1 (k + 1) (by omega) (by omega))]
      rfl
  · rw [if_neg (by simpa using q), if_neg q, j_X3_mayStandFor_21]
    rcases ngA_cases I h0 with ⟨k, a, b, e1, e2⟩ | ⟨e1, e2⟩
    · rw [e2]
      by_cases e : k = n
      · subst e
        rw [if_pos rfl, rB1]; simp [e1, b2]
      · rw [ifeq_f e (by omega) (by omega), rB0]
        have : S.2.1 n ≠ l := fun q2 => e (I.2.2.2.1 k n a b h1 h2 (e1.trans q2.symm) (by rw [e1]; exact h0))
        simp [this, b2]
    · rw [e2, ifeq_f (by omega) (by omega) (by omega), rB0]
      have := e1 n h1 h2
      simp [this, b2]
theorem mayB_other {S : aS} {l n : Nat} (h0 : l ≠ 0) (q : S.2.1 n = 0) : anyB (fun i => S.2.1 (i + 1) == l) 26 = otherG S l n := by
  refine anyB_cong (fun k hk => ?_)
  by_cases e : S.2.1 (k + 1) = l
  · have : k + 1 ≠ n := fun q2 => h0 (by rw [← e, q2, q])
    simp [e, this]
  · simp [e]
theorem ll_in {S : aS} (I : Iv S) {i j : Nat} (hi : i < S.2.2.2.1 5) (hj : j < S.2.2.2.2 i 0) : 1 ≤ S.2.2.2.2 i (j + 1) ∧ S.2.2.2.2 i (j + 1) ≤ 26 := (I.2.2.2.2.2.2.2 i hi).2.2 j hj
theorem X3_agrees {z : zV} {S : aS} (R : RC0 z S) (I : Iv S) (W : RW z (wl S.1)) {w i k : Nat} (h : w < nw S) (hi : i < S.2.2.2.1 5) (hk : k < wn S w) (hk2 : k < S.2.2.2.2 i 0) : f_X3_agreesWithEarlier z (nI w) (nI i) (nI k) = some (b2 (agrB S w i k)) := by
  have hw := wn_in h
  rw [f_X3_agreesWithEarlier, X2_cellOf W h, ob_eq, rA_in (cl_in h hk).1 (by omega), R.1 _ (cl_in h hk).1]
  have hlk := ll_in I hi hk2
  have step : ∀ f j, j < k → l_X3_agreesWithEarlier_22 z (f + 1) (nI w) (nI i) (nI k) (nI (ec (S.1 (cl S w k)))) (nI j) = (if ((nAt S (cl S w j) == nAt S (cl S w k)) == (S.2.2.2.2 i (j + 1) == S.2.2.2.2 i (k + 1))) = true then l_X3_agreesWithEarlier_22 z f (nI w) (nI i) (nI k) (nI (ec (S.1 (cl S w k)))) (nI (j + 1)) else some (nI 0)) := by
    intro f j hj
    have hjw : j < wn S w := by omega
    have hlj := ll_in I hi (j := j) (by omega)
    have heq := nAt_inj I (cl_in h hjw).1 (cl_in h hk).1
    rw [l_X3_agreesWithEarlier_22, ifle_f (by omega) (by omega), X2_cellOf W h, ob_eq, rA_in (cl_in h hjw).1 (by omega), R.1 _ (cl_in h hjw).1, ifec (I.1 _ (cl_in h hjw).1) (I.1 _ (cl_in h hk).1)]
    simp only [j_X3_agreesWithEarlier_56, X0_listedLetter R I hi (show j < S.2.2.2.2 i 0 by omega), X0_listedLetter R I hi hk2, ob_eq, ifec hlj.2 hlk.2, j_X3_agreesWithEarlier_85, nI_add, rB0]
    by_cases a : S.1 (cl S w j) = S.1 (cl S w k)
    · have a2 := heq.mpr a
      by_cases b : S.2.2.2.2 i (j + 1) = S.2.2.2.2 i (k + 1)
      · simp [a, a2, b]
      · have : nI 1 ≠ nI 0 := by decide
        have b2' : (S.2.2.2.2 i (j + 1) == S.2.2.2.2 i (k + 1)) = false := by simpa using b
        simp [a, a2, b, b2', this]
    · have a2 : (nAt S (cl S w j) == nAt S (cl S w k)) = false := by simpa using fun q => a (heq.mp q)
      by_cases b : S.2.2.2.2 i (j + 1) = S.2.2.2.2 i (k + 1)
      · have : nI 0 ≠ nI 1 := by decide
        simp [a, a2, b, this]
      · have b2' : (S.2.2.2.2 i (j + 1) == S.2.2.2.2 i (k + 1)) = false := by simpa using b
        simp [a, a2, b, b2']
  refine lp_all (L := fun f j => l_X3_agreesWithEarlier_22 z f (nI w) (nI i) (nI k) (nI (ec (S.1 (cl S w k)))) (nI j)) _ k (fun f => ?_) (fun f j hj q => ?_) (fun f j hj q => ?_) 1000 (by omega)
  · rw [l_X3_agreesWithEarlier_22, ifle_t (by omega) (by omega), rB1]; rfl
  · rw [step (f + 1) j hj, if_neg (by simpa using q)]; rfl
  · rw [step f j hj, if_pos q]
theorem X3_isFitting {z : zV} {S : aS} (R : RC0 z S) (I : Iv S) (W : RW z (wl S.1)) {w i : Nat} (h : w < nw S) (hi : i < S.2.2.2.1 5) : f_X3_isFitting z (nI w) (nI i) = some (b2 (fitB S w i)) := by
  have h28 := nw_le S
  have hw := wn_in h
  have h12 := I.2.2.2.2.2.2.1
  have hl := I.2.2.2.2.2.2.2 i hi
  rw [f_X3_isFitting, rA_in (by omega) (by omega), (RW_at W h).2.1, rA_in (by omega) (by omega), R.2.2.2.1 i hi]
  unfold fitB
  by_cases e : wn S w = S.2.2.2.2 i 0
  · rw [ifeq_t e]
    have e' : (wn S w == S.2.2.2.2 i 0) = true := by simpa using e
    rw [e', Bool.true_and]
    have step : ∀ f k, k < wn S w → l_X3_isFitting_28 z (f + 1) (nI w) (nI i) (nI (wn S w)) (nI k) = (if okc S w i k = true then l_X3_isFitting_28 z f (nI w) (nI i) (nI (wn S w)) (nI (k + 1)) else some (nI 0)) := by
      intro f k hk
      have hlk := ll_in I hi (j := k) (by omega)
      have hc := cl_in h hk
      rw [l_X3_isFitting_28, ifle_f (by omega) (by omega), X0_listedLetter R I hi (by omega), ob_eq, X3_numberIn R I W h hk, ob_eq, X3_mayStandFor R I (by omega) hlk.2 (nAt_pos hc.2) (nAt_le S _), ob_eq, ifb2]
      unfold okc
      by_cases q : mayB S (S.2.2.2.2 i (k + 1)) (nAt S (cl S w k)) = true
      · rw [if_pos q, q, Bool.true_and, X3_agrees R I W h hi hk (by omega), ob_eq, ifb2, nI_add, rB0]
      · rw [if_neg q, rB0, if_neg (by simp [q])]
    refine lp_all (L := fun f k => l_X3_isFitting_28 z f (nI w) (nI i) (nI (wn S w)) (nI k)) _ (wn S w) (fun f => ?_) (fun f j hj q => ?_) (fun f j hj q => ?_) 1000 (by omega)
    · rw [l_X3_isFitting_28, ifle_t (by omega) (by omega), rB1]; rfl
    · rw [step (f + 1) j hj, if_neg (by simpa using q)]; rfl
    · rw [step f j hj, if_pos q]
  · rw [ifeq_f e (by omega) (by omega), rB0]
    have e' : (wn S w == S.2.2.2.2 i 0) = false := by simpa using e
    rw [e', Bool.false_and]; rfl
theorem X4_isCellWell {m : zV} {S : aS} (R : RM0 m S) (I : Iv S) (W : RV m (wl S.1)) {w i k : Nat} (h : w < nw S) (hi : i < S.2.2.2.1 5) (hk : k < wn S w) (hk2 : k < S.2.2.2.2 i 0) : f_X4_isCellWell m (nI w) (nI i) (nI k) = some (b2 (okc S w i k)) := by
  have hw := wn_in h
  have hc := cl_in h hk
  have hlk := ll_in I hi hk2
  have h1 := nAt_pos hc.2
  have h2 := nAt_le S (cl S w k)
  have key : ∀ b : Bool, l_X4_isCellWell_74 m 1000 (nI w) (nI i) (nI k) (nI (nAt S (cl S w k))) (eM (S.2.2.2.2 i (k + 1))) (b2 b) (nI 0) = some (b2 (b && agrB S w i k)) := by
    intro b
    cases b with
    | false =>
      rw [l_X4_isCellWell_74, b2_f, if_pos rfl, rB0, Bool.false_and]
      split <;> rfl
    | true =>
      rw [Bool.true_and]
      have step : ∀ f j, j < k → l_X4_isCellWell_74 m (f + 1) (nI w) (nI i) (nI k) (nI (nAt S (cl S w k))) (eM (S.2.2.2.2 i (k + 1))) (b2 true) (nI j) = l_X4_isCellWell_74 m f (nI w) (nI i) (nI k) (nI (nAt S (cl S w k))) (eM (S.2.2.2.2 i (k + 1))) (b2 ((nAt S (cl S w j) == nAt S (cl S w k)) == (S.2.2.2.2 i (j + 1) == S.2.2.2.2 i (k + 1)))) (nI (j + 1)) := by
        intro f j hj
        have hjw : j < wn S w := by omega
        have hlj := ll_in I hi (j := j) (by omega)
        have h3 := nAt_le S (cl S w j)
        rw [l_X4_isCellWell_74, ifle_f (by omega) (by omega), ifb2, if_pos rfl, X4_cellOf W h, ob_eq, X4_numberC R I h hjw, ob_eq]
        simp only [j_X4_isCellWell_106, X4_letterOfListed R I hi (show j < S.2.2.2.2 i 0 by omega), ob_eq, ifem hlj.2 hlk.2, j_X4_isCellWell_123, nI_add]
        have t1 : nI 1 ≠ nI 0 := by decide
        have t2 : nI 0 ≠ nI 1 := by decide
        by_cases a : nAt S (cl S w j) = nAt S (cl S w k)
        · by_cases c : S.2.2.2.2 i (j + 1) = S.2.2.2.2 i (k + 1)
          · simp [a, c, b2]
          · have c' : (S.2.2.2.2 i (j + 1) == S.2.2.2.2 i (k + 1)) = false := by simpa using c
            simp [a, c, c', t1, b2]
        · have a' : nI (nAt S (cl S w j)) ≠ nI (nAt S (cl S w k)) := fun q => a ((nI_eq (by omega) (by omega)).mp q)
          have a2 : (nAt S (cl S w j) == nAt S (cl S w k)) = false := by simpa using a
          by_cases c : S.2.2.2.2 i (j + 1) = S.2.2.2.2 i (k + 1)
          · simp [a, a', a2, c, t2, b2]
          · have c' : (S.2.2.2.2 i (j + 1) == S.2.2.2.2 i (k + 1)) = false := by simpa using c
            simp [a, a', a2, c, c', b2]
      refine lp_all (L := fun f j => l_X4_isCellWell_74 m f (nI w) (nI i) (nI k) (nI (nAt S (cl S w k))) (eM (S.2.2.2.2 i (k + 1))) (b2 true) (nI j)) (fun j => (nAt S (cl S w j) == nAt S (cl S w k)) == (S.2.2.2.2 i (j + 1) == S.2.2.2.2 i (k + 1))) k (fun f => ?_) (fun f j hj q => ?_) (fun f j hj q => ?_) 1000 (by omega)
      · rw [l_X4_isCellWell_74, ifle_t (by omega) (by omega), rB_b2]
      · rw [step (f + 1) j hj, q, l_X4_isCellWell_74, b2_f, if_pos rfl, rB0]
        split <;> rfl
      · rw [step f j hj, q]
  have k1 := key true
  have k0 := key false
  rw [b2_t, Bool.true_and] at k1
  rw [b2_f, Bool.false_and] at k0
  rw [f_X4_isCellWell, X4_cellOf W h, ob_eq, X4_numberC R I h hk, ob_eq, X4_letterOfListed R I hi hk2, ob_eq, nI_add, rA_in (by omega) (by omega), R.2.1 _ h1 h2, ifem0 (I.2.2.1 _ h1 h2)]
  unfold okc mayB
  by_cases q : S.2.1 (nAt S (cl S w k)) = 0
  · rw [if_pos q, if_pos q, X4_isGuessOfAnother R I hlk.2 h2, ob_eq, ifb2, mayB_other (by omega) q]
    by_cases q2 : otherG S (S.2.2.2.2 i (k + 1)) (nAt S (cl S w k)) = true
    · rw [if_pos q2, k0, q2]; rfl
    · have q3 : otherG S (S.2.2.2.2 i (k + 1)) (nAt S (cl S w k)) = false := by simpa using q2
      rw [if_neg q2, k1, q3]; rfl
  · rw [if_neg q, if_neg q, ifem (I.2.2.1 _ h1 h2) hlk.2]
    by_cases q2 : S.2.1 (nAt S (cl S w k)) = S.2.2.2.2 i (k + 1)
    · have q3 : (S.2.1 (nAt S (cl S w k)) == S.2.2.2.2 i (k + 1)) = true := by simpa using q2
      rw [if_pos q2, k1, q3]; rfl
    · have q3 : (S.2.1 (nAt S (cl S w k)) == S.2.2.2.2 i (k + 1)) = false := by simpa using q2
      rw [if_neg q2, k0, q3]; rfl
theorem X4_isFit {m : zV} {S : aS} (R : RM0 m S) (I : Iv S) (W : RV m (wl S.1)) {w i : Nat} (h : w < nw S) (hi : i < S.2.2.2.1 5) : f_X4_isFit m (nI w) (nI i) = some (b2 (fitB S w i)) := by
  have h28 := nw_le S
  have hw := wn_in h
  have hl := I.2.2.2.2.2.2.2 i hi
  rw [f_X4_isFit, X4_sizeOf R I hi, ob_eq, rA_in (by omega) (by omega), (RV_at W h).2.1]
  unfold fitB
  by_cases e : wn S w = S.2.2.2.2 i 0
  · rw [ifeq_t e.symm]
    have e' : (wn S w == S.2.2.2.2 i 0) = true := by simpa using e
    rw [e', Bool.true_and]
    have step : ∀ f k, k < wn S w → l_X4_isFit_23 m (f + 1) (nI w) (nI i) (b2 true) (nI k) = l_X4_isFit_23 m f (nI w) (nI i) (b2 (okc S w i k)) (nI (k + 1)) := by
      intro f k hk
      rw [l_X4_isFit_23, rA_in (by omega) (by omega), (RV_at W h).2.1, ifle_f (by omega) (by omega), ifb2, if_pos rfl, X4_isCellWell R I W h hi hk (by omega), ob_eq, nI_add]
    refine lp_all (L := fun f k => l_X4_isFit_23 m f (nI w) (nI i) (b2 true) (nI k)) _ (wn S w) (fun f => ?_) (fun f j hj q => ?_) (fun f j hj q => ?_) 1000 (by omega)
    · rw [l_X4_isFit_23, rA_in (by omega) (by omega), (RV_at W h).2.1, ifle_t (by omega) (by omega), rB_b2]
    · rw [step (f + 1) j hj, q, l_X4_isFit_23, rA_in (by omega) (by omega), b2_f, if_pos rfl, rB0]
      split <;> rfl
    · rw [step f j hj, q]
  · rw [ifeq_f (fun q => e q.symm) (by omega) (by omega)]
    have e' : (wn S w == S.2.2.2.2 i 0) = false := by simpa using e
    rw [e', Bool.false_and, l_X4_isFit_23, rA_in (by omega) (by omega), if_pos rfl, rB0]
    split <;> rfl
def ftl (S : aS) (w : Nat) : Nat := cn (fun i => fitB S w i) (S.2.2.2.1 5)
def ftw (S : aS) (i : Nat) : Nat := cn (fun w => fitB S w i) (nw S)
def ffl (S : aS) (w : Nat) : Nat := fst1 (fun i => fitB S w i) (S.2.2.2.1 5)
def ffw (S : aS) (i : Nat) : Nat := fst1 (fun w => fitB S w i) (nw S)
theorem X3_listedThatFit {z : zV} {S : aS} (R : RC0 z S) (I : Iv S) (W : RW z (wl S.1)) {w : Nat} (h : w < nw S) : f_X3_listedThatFit z (nI w) = some (nI (ftl S w)) := by
  have h12 := I.2.2.2.2.2.2.1
  rw [f_X3_listedThatFit]
  refine lp_cn (L := fun f a k => l_X3_listedThatFit_4 z f (nI w) a (nI k)) _ (S.2.2.2.1 5) (fun f v => ?_) (fun f a k hk q => ?_) (fun f a k hk q => ?_) 1000 (by omega)
  · rw [l_X3_listedThatFit_4, R.2.2.2.2.2.1, ifle_t (by omega) (by omega)]
  · rw [l_X3_listedThatFit_4, R.2.2.2.2.2.1, ifle_f (by omega) (by omega), X3_isFitting R I W h hk, ob_eq, ifb2, if_pos q, nI_add, nI_add]
  · rw [l_X3_listedThatFit_4, R.2.2.2.2.2.1, ifle_f (by omega) (by omega), X3_isFitting R I W h hk, ob_eq, ifb2, if_neg (by simpa using q), nI_add]
theorem X4_fitting {m : zV} {S : aS} (R : RM0 m S) (I : Iv S) (W : RV m (wl S.1)) {w : Nat} (h : w < nw S) : f_X4_fitting m (nI w) = some (nI (ftl S w)) := by
  have h12 := I.2.2.2.2.2.2.1
  rw [f_X4_fitting]
  refine lp_cn (L := fun f a k => l_X4_fitting_4 m f (nI w) a (nI k)) _ (S.2.2.2.1 5) (fun f v => ?_) (fun f a k hk q => ?_) (fun f a k hk q => ?_) 1000 (by omega)
  · rw [l_X4_fitting_4, rA_in (by omega) (by omega), R.2.2.2.2.2.1, ifle_t (by omega) (by omega)]
  · rw [l_X4_fitting_4, rA_in (by omega) (by omega), R.2.2.2.2.2.1, ifle_f (by omega) (by omega), X4_isFit R I W h hk, ob_eq, ifb2, if_pos q, nI_add, nI_add]
  · rw [l_X4_fitting_4, rA_in (by omega) (by omega), R.2.2.2.2.2.1, ifle_f (by omega) (by omega), X4_isFit R I W h hk, ob_eq, ifb2, if_neg (by simpa using q), nI_add, nI_add]
    rfl
theorem X3_wordsThatFit {z : zV} {S : aS} (R : RC0 z S) (I : Iv S) (W : RW z (wl S.1)) {i : Nat} (hi : i < S.2.2.2.1 5) : f_X3_wordsThatFit z (nI i) = some (nI (ftw S i)) := by
  have h28 := nw_le S
  rw [f_X3_wordsThatFit]
  refine lp_cn (L := fun f a k => l_X3_wordsThatFit_4 z f (nI i) a (nI k)) _ (nw S) (fun f v => ?_) (fun f a k hk q => ?_) (fun f a k hk q => ?_) 1000 (by omega)
  · rw [l_X3_wordsThatFit_4, RW_n W, ifle_t (by omega) (by omega)]
  · rw [l_X3_wordsThatFit_4, RW_n W, ifle_f (by omega) (by omega), X3_isFitting R I W hk hi, ob_eq, ifb2, if_pos q, nI_add, nI_add]
  · rw [l_X3_wordsThatFit_4, RW_n W, ifle_f (by omega) (by omega), X3_isFitting R I W hk hi, ob_eq, ifb2, if_neg (by simpa using q), nI_add]
theorem X4_fitted {m : zV} {S : aS} (R : RM0 m S) (I : Iv S) (W : RV m (wl S.1)) {i : Nat} (hi : i < S.2.2.2.1 5) : f_X4_fitted m (nI i) = some (nI (ftw S i)) := by
  have h28 := nw_le S
  rw [f_X4_fitted]
  refine lp_cn (L := fun f a k => l_X4_fitted_4 m f (nI i) a (nI k)) _ (nw S) (fun f v => ?_) (fun f a k hk q => ?_) (fun f a k hk q => ?_) 1000 (by omega)
  · rw [l_X4_fitted_4, RV_n W, ifle_t (by omega) (by omega)]
  · rw [l_X4_fitted_4, RV_n W, ifle_f (by omega) (by omega), X4_isFit R I W hk hi, ob_eq, ifb2, if_pos q, nI_add, nI_add]
  · rw [l_X4_fitted_4, RV_n W, ifle_f (by omega) (by omega), X4_isFit R I W hk hi, ob_eq, ifb2, if_neg (by simpa using q), nI_add, nI_add]
    rfl
def on5 (b : Bool) (k : Nat) : Int32 := if b = true then nI k else -5
theorem X3_firstListedThatFits {z : zV} {S : aS} (R : RC0 z S) (I : Iv S) (W : RW z (wl S.1)) {w : Nat} (h : w < nw S) : f_X3_firstListedThatFits z (nI w) = some (on5 (decide (ffl S w < S.2.2.2.1 5)) (ffl S w)) := by
  have h12 := I.2.2.2.2.2.2.1
  rw [f_X3_firstListedThatFits]
  refine lp_fst (L := fun f k => l_X3_firstListedThatFits_2 z f (nI w) (nI k)) (fun i => fitB S w i) (S.2.2.2.1 5) (fun k => some (on5 (decide (k < S.2.2.2.1 5)) k)) (fun f => ?_) (fun f k hk q => ?_) (fun f k hk q => ?_) 1000 (by omega)
  · rw [l_X3_firstListedThatFits_2, R.2.2.2.2.2.1, ifle_t (by omega) (by omega)]; simp [on5]
  · rw [l_X3_firstListedThatFits_2, R.2.2.2.2.2.1, ifle_f (by omega) (by omega), X3_isFitting R I W h hk, ob_eq, ifb2, if_pos q]; simp [on5, hk]
  · rw [l_X3_firstListedThatFits_2, R.2.2.2.2.2.1, ifle_f (by omega) (by omega), X3_isFitting R I W h hk, ob_eq, ifb2, if_neg (by simpa using q), nI_add]
theorem X4_firstFitting {m : zV} {S : aS} (R : RM0 m S) (I : Iv S) (W : RV m (wl S.1)) {w : Nat} (h : w < nw S) : f_X4_firstFitting m (nI w) = some (on5 (decide (ffl S w < S.2.2.2.1 5)) (ffl S w)) := by
  have h12 := I.2.2.2.2.2.2.1
  rw [f_X4_firstFitting]
  refine lp_fst (L := fun f k => l_X4_firstFitting_2 m f (nI w) (nI k)) (fun i => fitB S w i) (S.2.2.2.1 5) (fun k => some (on5 (decide (k < S.2.2.2.1 5)) k)) (fun f => ?_) (fun f k hk q => ?_) (fun f k hk q => ?_) 1000 (by omega)
  · rw [l_X4_firstFitting_2, rA_in (by omega) (by omega), R.2.2.2.2.2.1, ifle_t (by omega) (by omega)]; simp [on5]
  · rw [l_X4_firstFitting_2, rA_in (by omega) (by omega), R.2.2.2.2.2.1, ifle_f (by omega) (by omega), X4_isFit R I W h hk, ob_eq, ifb2, if_pos q]; simp [on5, hk]
  · rw [l_X4_firstFitting_2, rA_in (by omega) (by omega), R.2.2.2.2.2.1, ifle_f (by omega) (by omega), X4_isFit R I W h hk, ob_eq, ifb2, if_neg (by simpa using q), nI_add]
theorem X3_firstWordThatFits {z : zV} {S : aS} (R : RC0 z S) (I : Iv S) (W : RW z (wl S.1)) {i : Nat} (hi : i < S.2.2.2.1 5) : f_X3_firstWordThatFits z (nI i) = some (on5 (decide (ffw S i < nw S)) (ffw S i)) := by
  have h28 := nw_le S
  rw [f_X3_firstWordThatFits]
  refine lp_fst (L := fun f k => l_X3_firstWordThatFits_2 z f (nI i) (nI k)) (fun w => fitB S w i) (nw S) (fun k => some (on5 (decide (k < nw S)) k)) (fun f => ?_) (fun f k hk q => ?_) (fun f k hk q => ?_) 1000 (by omega)
  · rw [l_X3_firstWordThatFits_2, RW_n W, ifle_t (by omega) (by omega)]; simp [on5]
  · rw [l_X3_firstWordThatFits_2, RW_n W, ifle_f (by omega) (by omega), X3_isFitting R I W hk hi, ob_eq, ifb2, if_pos q]; simp [on5, hk]
  · rw [l_X3_firstWordThatFits_2, RW_n W, ifle_f (by omega) (by omega), X3_isFitting R I W hk hi, ob_eq, ifb2, if_neg (by simpa using q), nI_add]
theorem X4_firstFitted {m : zV} {S : aS} (R : RM0 m S) (I : Iv S) (W : RV m (wl S.1)) {i : Nat} (hi : i < S.2.2.2.1 5) : f_X4_firstFitted m (nI i) = some (on5 (decide (ffw S i < nw S)) (ffw S i)) := by
  have h28 := nw_le S
  rw [f_X4_firstFitted]
  refine lp_fst (L := fun f k => l_X4_firstFitted_2 m f (nI i) (nI k)) (fun w => fitB S w i) (nw S) (fun k => some (on5 (decide (k < nw S)) k)) (fun f => ?_) (fun f k hk q => ?_) (fun f k hk q => ?_) 1000 (by omega)
  · rw [l_X4_firstFitted_2, RV_n W, ifle_t (by omega) (by omega)]; simp [on5]
  · rw [l_X4_firstFitted_2, RV_n W, ifle_f (by omega) (by omega), X4_isFit R I W hk hi, ob_eq, ifb2, if_pos q]; simp [on5, hk]
  · rw [l_X4_firstFitted_2, RV_n W, ifle_f (by omega) (by omega), X4_isFit R I W hk hi, ob_eq, ifb2, if_neg (by simpa using q), nI_add]
