/-! THE ACTS (7): addWords: the words of a text -/
theorem lp_allr {α : Type} {L : Nat → Nat → α} (p : Nat → Bool) (n : Nat) (r : Bool → α) (hx : ∀ f, L (f + 1) n = r true) (hf : ∀ f k, k < n → p k = false → L (f + 2) k = r false) (ht : ∀ f k, k < n → p k = true → L (f + 1) k = L f (k + 1)) : ∀ f, n + 1 < f → L f 0 = r (allB p n) := by
  have key : ∀ f k, k ≤ n → n - k + 1 < f → (∀ j, j < k → p j = true) → L f k = r (allB p n) := by
    intro f
    induction f with
    | zero => intro k _ h; omega
    | succ f ih =>
      intro k hk hfu hp
      rcases Nat.lt_or_ge k n with h | h
      · by_cases q : p k = true
        · rw [ht f k h q]
          exact ih (k + 1) h (by omega) (fun j hj => by
            by_cases e : j = k
            · rw [e]; exact q
            · exact hp j (by omega))
        · have q' : p k = false := by simpa using q
          obtain ⟨f', rfl⟩ : ∃ f', f = f' + 1 := ⟨f - 1, by omega⟩
          rw [hf f' k h q', allB_f h q']
      · have e : k = n := by omega
        subst e
        rw [hx f, allB_t hp]
  intro f hf
  exact key f 0 (Nat.zero_le _) (by omega) (fun j hj => by omega)
theorem lp_any {L : Nat → Nat → Option Int32} (p : Nat → Bool) (n : Nat) (hx : ∀ f, L (f + 1) n = some (b2 false)) (ht : ∀ f k, k < n → p k = true → L (f + 1) k = some (b2 true)) (hf : ∀ f k, k < n → p k = false → L (f + 1) k = L f (k + 1)) : ∀ f, n < f → L f 0 = some (b2 (anyB p n)) := by
  intro f hfn
  rw [fst1_any]
  exact lp_fst (L := L) p n (fun k => some (b2 (decide (k < n)))) (fun f => by rw [hx f, decide_eq_false (by omega)]) (fun f k hk hp => by rw [ht f k hk hp, decide_eq_true hk]) hf f hfn
theorem fst1_eq {p : Nat → Bool} {n k : Nat} (hk : k < n) (h1 : ∀ j, j < k → p j = false) (h2 : p k = true) : fst1 p n = k := by
  obtain ⟨a, b, c⟩ := fst1_spec p n
  rcases Nat.lt_trichotomy (fst1 p n) k with q | q | q
  · have := h1 _ q
    rw [c (by omega)] at this
    exact absurd this (by decide)
  · exact q
  · rw [b k q] at h2
    exact absurd h2 (by decide)
def isSt0 (tx : Nat → Nat) (p : Nat) : Bool := p == 0 || tx (p - 1) == 44
def wlen (tx : Nat → Nat) (tl p : Nat) : Nat := fst1 (fun j => decide (tl ≤ p + j) || tx (p + j) == 44) 61
theorem wlen_eq {tx : Nat → Nat} {tl p n : Nat} (hn : n < 61) (h1 : ∀ j, j < n → p + j < tl ∧ tx (p + j) ≠ 44) (h2 : tl ≤ p + n ∨ tx (p + n) = 44) : wlen tx tl p = n := by
  refine fst1_eq hn (fun j hj => ?_) ?_
  · have := h1 j hj
    rw [decide_eq_false (by omega), Bool.false_or]
    exact beq_eq_false_iff_ne.mpr this.2
  · rcases h2 with q | q
    · rw [decide_eq_true q]; rfl
    · rw [beq_iff_eq.mpr q, Bool.or_true]
theorem wlen_in {tx : Nat → Nat} {tl p j : Nat} (h : j < wlen tx tl p) : p + j < tl ∧ tx (p + j) ≠ 44 := by
  have := fst1_no h
  rw [Bool.or_eq_false_iff, decide_eq_false_iff_not, beq_eq_false_iff_ne] at this
  exact ⟨by omega, this.2⟩
theorem wlen_le {tx : Nat → Nat} {tl p : Nat} (h : p ≤ tl) : p + wlen tx tl p ≤ tl := by
  refine Classical.byContradiction (fun q => ?_)
  have := wlen_in (tx := tx) (tl := tl) (p := p) (j := tl - p) (by omega)
  omega
theorem wlen_end {tx : Nat → Nat} {tl p : Nat} (h60 : tl ≤ 60) : tl ≤ p + wlen tx tl p ∨ tx (p + wlen tx tl p) = 44 := by
  by_cases q : tl ≤ p + wlen tx tl p
  · exact Or.inl q
  · have h := fst1_yes (p := fun j => decide (tl ≤ p + j) || tx (p + j) == 44) (n := 61) (by unfold wlen at q; omega)
    rw [Bool.or_eq_true, decide_eq_true_eq, beq_iff_eq] at h
    rcases h with h | h
    · exact Or.inl h
    · exact Or.inr h
def GT (tx : Nat → Nat) (tl : Nat) : Prop := tl ≤ 60 ∧ (∀ i, i < tl → tx i < 65536) ∧ ∀ p, p < tl → isSt0 tx p = true → 2 ≤ wlen tx tl p ∧ wlen tx tl p ≤ 7 ∧ ∀ j, j < wlen tx tl p → 97 ≤ tx (p + j) ∧ tx (p + j) ≤ 122
def TX (z : zV) (tx : Nat → Nat) (tl : Nat) : Prop := z.1 40 1 = nI tl ∧ ∀ i, i < tl → z.2.1 41 i = nI (tx i)
def TM (m : zV) (tx : Nat → Nat) (tl : Nat) : Prop := m.1 0 11 = nI tl ∧ ∀ i, i < tl → m.2.1 8 i = nI (tx i)
theorem isSt0_iff {tx : Nat → Nat} {p : Nat} : isSt0 tx p = true ↔ p = 0 ∨ tx (p - 1) = 44 := by
  unfold isSt0
  rw [Bool.or_eq_true, beq_iff_eq, beq_iff_eq]
theorem T_wordsFault {z m : zV} {tl : Nat} {tx : Nat → Nat} (h60 : tl ≤ 60) (hc : ∀ i, i < tl → tx i < 65536) (T : TX z tx tl) (Q : TM m tx tl) : (∃ p, p ≤ 60 ∧ f_X1_faultAsWords z = some (nI p) ∧ f_X4_faultOfWords m = some (nI p)) ∨ (f_X1_faultAsWords z = some (-1) ∧ f_X4_faultOfWords m = some (-5) ∧ GT tx tl) := by
  have key : ∀ f n k, n ≤ k → k ≤ tl → n ≤ 7 → tl - k < f → isSt0 tx (k - n) = true → (∀ j, j < n → 97 ≤ tx (k - n + j) ∧ tx (k - n + j) ≤ 122) → (∀ p, p < k - n → isSt0 tx p = true → 2 ≤ wlen tx tl p ∧ wlen tx tl p ≤ 7 ∧ ∀ j, j < wlen tx tl p → 97 ≤ tx (p + j) ∧ tx (p + j) ≤ 122) → (∃ p, p ≤ 60 ∧ l_X1_faultAsWords_4 z f (nI n) (nI k) = some (nI p) ∧ l_X4_faultOfWords_4 m f (nI n) (nI k) = some (nI p)) ∨ (l_X1_faultAsWords_4 z f (nI n) (nI k) = some (-1) ∧ l_X4_faultOfWords_4 m f (nI n) (nI k) = some (-5) ∧ GT tx tl) := by
    intro f
    induction f with
    | zero => intro n k h1 h2 h3 h4; omega
    | succ f ih =>
      intro n k h1 h2 h3 h4 hs hl hp
      -- all starts up to k, where a word ends at k
      have all : (tl ≤ k ∨ tx k = 44) → 2 ≤ n → ∀ p, p ≤ k → p < tl → isSt0 tx p = true → 2 ≤ wlen tx tl p ∧ wlen tx tl p ≤ 7 ∧ ∀ j, j < wlen tx tl p → 97 ≤ tx (p + j) ∧ tx (p + j) ≤ 122 := by
        intro he h2n p hpk hpt hps
        by_cases q : p < k - n
        · exact hp p q hps
        · by_cases q2 : p = k - n
          · have hw : wlen tx tl p = n := wlen_eq (by omega) (fun j hj => by
              have := hl j hj
              rw [← q2] at this
              exact ⟨by omega, by omega⟩) (by rw [q2, show k - n + n = k by omega]; exact he)
            rw [hw]
            exact ⟨h2n, h3, fun j hj => by rw [q2]; exact hl j hj⟩
          · rcases isSt0_iff.mp hps with e | e
            · omega
            · have := hl (p - 1 - (k - n)) (by omega)
              rw [show k - n + (p - 1 - (k - n)) = p - 1 by omega, e] at this
              omega
      rw [l_X1_faultAsWords_4, l_X4_faultOfWords_4, T.1, Q.1]
      by_cases q : k = tl
      · rw [ifle_t (a := tl) (b := k) (by omega) (by omega), ifle_t (a := tl) (b := k) (by omega) (by omega)]
        by_cases q2 : 2 ≤ n
        · rw [ifle_t (a := 2) (b := n) q2 (by omega), ifle_t (a := 2) (b := n) q2 (by omega)]
          exact Or.inr ⟨rfl, rfl, h60, hc, fun p h h' => all (Or.inl (by omega)) q2 p (by omega) h h'⟩
        · rw [ifle_f (a := 2) (b := n) (by omega) (by omega), ifle_f (a := 2) (b := n) (by omega) (by omega)]
          exact Or.inl ⟨tl, h60, rfl, rfl⟩
      · have hk : k < tl := by omega
        have hck := hc k hk
        rw [ifle_f (a := tl) (b := k) (by omega) (by omega), ifle_f (a := tl) (b := k) (by omega) (by omega), rA_in (f := z.2.1 41) (by omega) (by omega), T.2 k hk, X3_isLetterN z hck, ob_eq, ifb2, X4_isLetterN (by omega) (Q.2 k hk) hck, ob_eq, ifb2]
        -- no letter of a word
        have stop : (∃ p, p ≤ 60 ∧ j_X1_faultAsWords_36 z (l_X1_faultAsWords_4 z f) (nI n) (nI k) = some (nI p) ∧ j_X4_faultOfWords_30 m (j_X4_faultOfWords_31 m (l_X4_faultOfWords_4 m f)) (nI n) (nI k) = some (nI p)) ∨ (j_X1_faultAsWords_36 z (l_X1_faultAsWords_4 z f) (nI n) (nI k) = some (-1) ∧ j_X4_faultOfWords_30 m (j_X4_faultOfWords_31 m (l_X4_faultOfWords_4 m f)) (nI n) (nI k) = some (-5) ∧ GT tx tl) := by
          rw [j_X1_faultAsWords_36, j_X4_faultOfWords_30, j_X4_faultOfWords_31, if_pos rfl, rA_in (f := z.2.1 41) (by omega) (by omega), T.2 k hk, rA_in (f := m.2.1 8) (by omega) (by omega), Q.2 k hk]
          by_cases qc : tx k = 44
          · rw [ifeq_t qc, ifeq_t qc]
            by_cases q2 : 2 ≤ n
            · rw [iflt_f (a := n) (b := 2) q2 (by omega), ifle_t (a := 2) (b := n) q2 (by omega), j_X4_faultOfWords_54, if_pos rfl, nI_add]
              have hall := all (Or.inr qc) q2
              exact ih 0 (k + 1) (by omega) (by omega) (by omega) (by omega) (isSt0_iff.mpr (Or.inr (by rw [show k + 1 - 0 - 1 = k by omega]; exact qc))) (fun j hj => absurd hj (by omega)) (fun p hpk hps => hall p (by omega) (by omega) hps)
            · rw [iflt_t (a := n) (b := 2) (by omega) (by omega), ifle_f (a := 2) (b := n) (by omega) (by omega)]
              exact Or.inl ⟨k, by omega, rfl, rfl⟩
          · rw [ifeq_f qc (by omega) (by omega), ifeq_f qc (by omega) (by omega)]
            exact Or.inl ⟨k, by omega, rfl, rfl⟩
        cases ho : (decide (97 ≤ tx k) && decide (tx k ≤ 122)) with
        | true =>
          have hb : 97 ≤ tx k ∧ tx k ≤ 122 := by simpa using ho
          rw [if_pos (show true = true from rfl), if_pos (show true = true from rfl)]
          by_cases q7 : n = 7
          · rw [ifle_t (a := 7) (b := n) (by omega) (by omega), ifle_t (a := 7) (b := n) (by omega) (by omega)]
            exact stop
          · rw [ifle_f (a := 7) (b := n) (by omega) (by omega), ifle_f (a := 7) (b := n) (by omega) (by omega), j_X4_faultOfWords_31, ifeq_f (a := 1) (b := 0) (by omega) (by omega) (by omega), j_X4_faultOfWords_54, ifeq_f (a := 1) (b := 0) (by omega) (by omega) (by omega), nI_add, nI_add]
            refine ih (n + 1) (k + 1) (by omega) (by omega) (by omega) (by omega) (by rw [show k + 1 - (n + 1) = k - n by omega]; exact hs) (fun j hj => ?_) (fun p hpk hps => hp p (by omega) hps)
            rw [show k + 1 - (n + 1) + j = k - n + j by omega]
            by_cases e : j = n
            · rw [e, show k - n + n = k by omega]; exact hb
            · exact hl j (by omega)
        | false =>
          rw [if_neg (show ¬ false = true by decide), if_neg (show ¬ false = true by decide)]
          exact stop
  exact key 1000 0 0 (by omega) (by omega) (by omega) (by omega) rfl (fun j hj => absurd hj (by omega)) (fun p hp => absurd hp (by omega))
/-! what the class reads of a text -/
theorem X1_startsWord {z : zV} {tl : Nat} {tx : Nat → Nat} (h60 : tl ≤ 60) (hc : ∀ i, i < tl → tx i < 65536) (T : TX z tx tl) {p : Nat} (hp : p ≤ tl) : f_X1_startsWord z (nI p) = some (b2 (isSt0 tx p)) := by
  rw [f_X1_startsWord]
  by_cases q : p = 0
  · rw [ifeq_t q, rB1]
    unfold isSt0
    rw [beq_iff_eq.mpr q]; rfl
  · have := hc (p - 1) (by omega)
    rw [ifeq_f q (by omega) (by omega), pk_sub (by omega), rA_in (by omega) (by omega), T.2 (p - 1) (by omega), rB1, rB0]
    unfold isSt0
    rw [beq_eq_false_iff_ne.mpr q, Bool.false_or]
    by_cases q2 : tx (p - 1) = 44
    · rw [ifeq_t q2, beq_iff_eq.mpr q2]; rfl
    · rw [ifeq_f q2 (by omega) (by omega), beq_eq_false_iff_ne.mpr q2]; rfl
theorem X1_wordLength {z : zV} {tl : Nat} {tx : Nat → Nat} (h60 : tl ≤ 60) (hc : ∀ i, i < tl → tx i < 65536) (T : TX z tx tl) {p : Nat} (hp : p ≤ tl) : f_X1_wordLength z (nI p) = some (nI (wlen tx tl p)) := by
  rw [f_X1_wordLength]
  refine lp_fst (L := fun f j => l_X1_wordLength_2 z f (nI p) (nI j)) (p := fun j => decide (tl ≤ p + j) || tx (p + j) == 44) (n := 61) (r := fun j => some (nI j)) (fun f => ?_) (fun f j hj h => ?_) (fun f j hj h => ?_) 1000 (by omega)
  · rw [l_X1_wordLength_2, nI_add, T.1, ifle_t (by omega) (by omega)]
  · rw [l_X1_wordLength_2, nI_add, T.1]
    by_cases q : tl ≤ p + j
    · rw [ifle_t q (by omega)]
    · rw [decide_eq_false q, Bool.false_or, beq_iff_eq] at h
      rw [ifle_f (by omega) (by omega), rA_in (by omega) (by omega), T.2 _ (by omega), ifeq_t h]
  · rw [Bool.or_eq_false_iff, decide_eq_false_iff_not, beq_eq_false_iff_ne] at h
    have := hc (p + j) (by omega)
    rw [l_X1_wordLength_2, nI_add, T.1, ifle_f (by omega) (by omega), rA_in (by omega) (by omega), T.2 _ (by omega), ifeq_f h.2 (by omega) (by omega), nI_add]
def swB (S : aS) (tx : Nat → Nat) (tl p i : Nat) : Bool := S.2.2.2.2 i 0 == wlen tx tl p && allB (fun j => tx (p + j) == ec (S.2.2.2.2 i (j + 1))) (wlen tx tl p)
def onL (S : aS) (tx : Nat → Nat) (tl p : Nat) : Bool := anyB (fun i => swB S tx tl p i) (S.2.2.2.1 5)
def smB (tx : Nat → Nat) (tl q p : Nat) : Bool := wlen tx tl q == wlen tx tl p && allB (fun j => tx (q + j) == tx (p + j)) (wlen tx tl q)
def rpB (tx : Nat → Nat) (tl p k : Nat) : Bool := anyB (fun q => isSt0 tx q && smB tx tl q p) k
theorem X3_isSameWord {z : zV} {S : aS} (R : RC0 z S) (I : Iv S) {tl : Nat} {tx : Nat → Nat} (h60 : tl ≤ 60) (hc : ∀ i, i < tl → tx i < 65536) (T : TX z tx tl) {p i : Nat} (hp : p ≤ tl) (hi : i < S.2.2.2.1 5) : f_X3_isSameWord z (nI p) (nI i) = some (b2 (swB S tx tl p i)) := by
  have h12 := I.2.2.2.2.2.2.1
  have h7 := (I.2.2.2.2.2.2.2 i hi).2.1
  have hw := wlen_le (tx := tx) hp
  rw [f_X3_isSameWord, X1_wordLength h60 hc T hp, ob_eq, rA_in (by omega) (by omega), R.2.2.2.1 i hi, rB0]
  unfold swB
  by_cases q : wlen tx tl p = S.2.2.2.2 i 0
  · rw [ifeq_t q, beq_iff_eq.mpr q.symm, Bool.true_and]
    refine lp_all (L := fun f j => l_X3_isSameWord_27 z f (nI p) (nI i) (nI (wlen tx tl p)) (nI j)) (p := fun j => tx (p + j) == ec (S.2.2.2.2 i (j + 1))) (n := wlen tx tl p) (fun f => ?_) (fun f j hj h => ?_) (fun f j hj h => ?_) 1000 (by omega)
    · rw [l_X3_isSameWord_27, ifle_t (by omega) (by omega), rB1]; rfl
    · rw [beq_eq_false_iff_ne] at h
      have hin := wlen_in hj
      have hcc := hc _ hin.1
      have lj := ll_in I hi (j := j) (by omega)
      have hec := ec_le lj.2
      rw [l_X3_isSameWord_27, ifle_f hj (by omega), nI_add, rA_in (by omega) (by omega), T.2 _ hin.1, X0_listedLetter R I hi (by omega), ob_eq, ifeq_f h (by omega) (by omega), rB0]; rfl
    · rw [beq_iff_eq] at h
      have hin := wlen_in hj
      rw [l_X3_isSameWord_27, ifle_f hj (by omega), nI_add, rA_in (by omega) (by omega), T.2 _ hin.1, X0_listedLetter R I hi (by omega), ob_eq, ifeq_t h, nI_add]
  · rw [ifeq_f q (by omega) (by omega), beq_eq_false_iff_ne.mpr (fun e => q e.symm), Bool.false_and]; rfl
theorem X3_isListedT {z : zV} {S : aS} (R : RC0 z S) (I : Iv S) {tl : Nat} {tx : Nat → Nat} (h60 : tl ≤ 60) (hc : ∀ i, i < tl → tx i < 65536) (T : TX z tx tl) {p : Nat} (hp : p ≤ tl) : f_X3_isListed z (nI p) = some (b2 (onL S tx tl p)) := by
  have h12 := I.2.2.2.2.2.2.1
  rw [f_X3_isListed]
  refine lp_any (L := fun f i => l_X3_isListed_2 z f (nI p) (nI i)) (p := fun i => swB S tx tl p i) (n := S.2.2.2.1 5) (fun f => ?_) (fun f i hi h => ?_) (fun f i hi h => ?_) 1000 (by omega)
  · rw [l_X3_isListed_2, R.2.2.2.2.2.1, ifle_t (by omega) (by omega), rB0]; rfl
  · rw [l_X3_isListed_2, R.2.2.2.2.2.1, ifle_f hi (by omega), X3_isSameWord R I h60 hc T hp hi, ob_eq, ifb2, if_pos h, rB1]; rfl
  · rw [l_X3_isListed_2, R.2.2.2.2.2.1, ifle_f hi (by omega), X3_isSameWord R I h60 hc T hp hi, ob_eq, ifb2, if_neg (by rw [h]; decide), nI_add]
theorem X1_isSameInText {z : zV} {tl : Nat} {tx : Nat → Nat} (h60 : tl ≤ 60) (hc : ∀ i, i < tl → tx i < 65536) (T : TX z tx tl) {q p : Nat} (hq : q ≤ tl) (hp : p ≤ tl) : f_X1_isSameInText z (nI q) (nI p) = some (b2 (smB tx tl q p)) := by
  have hwq := wlen_le (tx := tx) hq
  have hwp := wlen_le (tx := tx) hp
  rw [f_X1_isSameInText, X1_wordLength h60 hc T hq, ob_eq, X1_wordLength h60 hc T hp, ob_eq, rB0]
  unfold smB
  by_cases e : wlen tx tl q = wlen tx tl p
  · rw [ifeq_t e, beq_iff_eq.mpr e, Bool.true_and]
    refine lp_all (L := fun f j => l_X1_isSameInText_20 z f (nI q) (nI p) (nI (wlen tx tl q)) (nI j)) (p := fun j => tx (q + j) == tx (p + j)) (n := wlen tx tl q) (fun f => ?_) (fun f j hj h => ?_) (fun f j hj h => ?_) 1000 (by omega)
    · rw [l_X1_isSameInText_20, ifle_t (by omega) (by omega), rB1]; rfl
    · rw [beq_eq_false_iff_ne] at h
      have hin := wlen_in hj
      have hin2 := wlen_in (tx := tx) (tl := tl) (p := p) (j := j) (by omega)
      have hcc := hc _ hin.1
      have hcc2 := hc _ hin2.1
      rw [l_X1_isSameInText_20, ifle_f hj (by omega), nI_add, rA_in (by omega) (by omega), T.2 _ hin.1, nI_add, rA_in (by omega) (by omega), T.2 _ hin2.1, ifeq_f h (by omega) (by omega), rB0]; rfl
    · rw [beq_iff_eq] at h
      have hin := wlen_in hj
      have hin2 := wlen_in (tx := tx) (tl := tl) (p := p) (j := j) (by omega)
      rw [l_X1_isSameInText_20, ifle_f hj (by omega), nI_add, rA_in (by omega) (by omega), T.2 _ hin.1, nI_add, rA_in (by omega) (by omega), T.2 _ hin2.1, ifeq_t h, nI_add]
  · rw [ifeq_f e (by omega) (by omega), beq_eq_false_iff_ne.mpr e, Bool.false_and]; rfl
theorem X1_isRepeated {z : zV} {tl : Nat} {tx : Nat → Nat} (h60 : tl ≤ 60) (hc : ∀ i, i < tl → tx i < 65536) (T : TX z tx tl) {p : Nat} (hp : p ≤ tl) : f_X1_isRepeated z (nI p) = some (b2 (rpB tx tl p p)) := by
  rw [f_X1_isRepeated]
  refine lp_any (L := fun f q => l_X1_isRepeated_2 z f (nI p) (nI q)) (p := fun q => isSt0 tx q && smB tx tl q p) (n := p) (fun f => ?_) (fun f q hq h => ?_) (fun f q hq h => ?_) 1000 (by omega)
  · rw [l_X1_isRepeated_2, ifle_t (by omega) (by omega), rB0]; rfl
  · rw [Bool.and_eq_true] at h
    rw [l_X1_isRepeated_2, ifle_f hq (by omega), X1_startsWord h60 hc T (by omega), ob_eq, ifb2, if_pos h.1, X1_isSameInText h60 hc T (by omega) hp, ob_eq, ifb2, if_pos h.2, rB1]; rfl
  · rw [l_X1_isRepeated_2, ifle_f hq (by omega), X1_startsWord h60 hc T (by omega), ob_eq, ifb2]
    by_cases e : isSt0 tx q = true
    · rw [e, Bool.true_and] at h
      rw [if_pos e, X1_isSameInText h60 hc T (by omega) hp, ob_eq, ifb2, if_neg (by rw [h]; decide), nI_add]
    · rw [if_neg e, nI_add]
def newB (S : aS) (tx : Nat → Nat) (tl p : Nat) : Bool := isSt0 tx p && (!(onL S tx tl p) && !(rpB tx tl p p))
theorem X3_newWords {z : zV} {S : aS} (R : RC0 z S) (I : Iv S) {tl : Nat} {tx : Nat → Nat} (h60 : tl ≤ 60) (hc : ∀ i, i < tl → tx i < 65536) (T : TX z tx tl) : f_X3_newWordsInText z = some (nI (cn (newB S tx tl) tl)) := by
  rw [f_X3_newWordsInText]
  refine lp_cnr (L := fun f a p => l_X3_newWordsInText_4 z f (nI a) (nI p)) (p := newB S tx tl) (n := tl) (r := fun a => some (nI a)) (fun f a => ?_) (fun f a p hp h => ?_) (fun f a p hp h => ?_) 1000 (by omega)
  · rw [l_X3_newWordsInText_4, T.1, ifle_t (by omega) (by omega)]
  · unfold newB at h
    rw [Bool.and_eq_true, Bool.and_eq_true, Bool.not_eq_true', Bool.not_eq_true'] at h
    rw [l_X3_newWordsInText_4, T.1, ifle_f hp (by omega), X1_startsWord h60 hc T (by omega), ob_eq, ifb2, if_pos h.1, X3_isListedT R I h60 hc T (by omega), ob_eq, ifb2, if_neg (by rw [h.2.1]; decide), X1_isRepeated h60 hc T (by omega), ob_eq, ifb2, if_neg (by rw [h.2.2]; decide), nI_add, nI_add]
  · rw [l_X3_newWordsInText_4, T.1, ifle_f hp (by omega), X1_startsWord h60 hc T (by omega), ob_eq, ifb2, nI_add]
    by_cases e : isSt0 tx p = true
    · rw [if_pos e, X3_isListedT R I h60 hc T (by omega), ob_eq, ifb2]
      by_cases e2 : onL S tx tl p = true
      · rw [if_pos e2, nI_add]
      · rw [if_neg e2, X1_isRepeated h60 hc T (by omega), ob_eq, ifb2]
        by_cases e3 : rpB tx tl p p = true
        · rw [if_pos e3, nI_add]
        · unfold newB at h
          simp [e, e2, e3] at h
    · rw [if_neg e, nI_add]
