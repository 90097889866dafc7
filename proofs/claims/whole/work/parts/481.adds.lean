/-! THE ACTS (8): addWords: the list as it grows -/
def apS (T : aS) (tx : Nat → Nat) (tl p : Nat) : aS := (T.1, T.2.1, T.2.2.1, upN T.2.2.2.1 5 (T.2.2.2.1 5 + 1), fun i => if i = T.2.2.2.1 5 then (fun j => if j = 0 then wlen tx tl p else tx (p + (j - 1)) - 96) else T.2.2.2.2 i)
theorem apS_at {T : aS} {tx : Nat → Nat} {tl p : Nat} : (apS T tx tl p).2.2.2.2 (T.2.2.2.1 5) = (fun j => if j = 0 then wlen tx tl p else tx (p + (j - 1)) - 96) := if_pos rfl
theorem apS_at0 {T : aS} {tx : Nat → Nat} {tl p : Nat} : (apS T tx tl p).2.2.2.2 (T.2.2.2.1 5) 0 = wlen tx tl p := by rw [apS_at]; exact if_pos rfl
theorem apS_ats {T : aS} {tx : Nat → Nat} {tl p j : Nat} : (apS T tx tl p).2.2.2.2 (T.2.2.2.1 5) (j + 1) = tx (p + j) - 96 := by
  rw [apS_at]
  show (if _ then _ else _) = _
  rw [if_neg (by omega), Nat.add_sub_cancel]
theorem apS_ne {T : aS} {tx : Nat → Nat} {tl p i : Nat} (h : i ≠ T.2.2.2.1 5) : (apS T tx tl p).2.2.2.2 i = T.2.2.2.2 i := if_neg h
theorem apS_sz {T : aS} {tx : Nat → Nat} {tl p : Nat} : (apS T tx tl p).2.2.2.1 5 = T.2.2.2.1 5 + 1 := rfl
theorem Iv_apS {T : aS} {tx : Nat → Nat} {tl p : Nat} (I : Iv T) (h12 : T.2.2.2.1 5 < 12) (h2 : 2 ≤ wlen tx tl p) (h7 : wlen tx tl p ≤ 7) (hl : ∀ j, j < wlen tx tl p → 97 ≤ tx (p + j) ∧ tx (p + j) ≤ 122) : Iv (apS T tx tl p) := by
  obtain ⟨i1, i2, i3, i4, i5, i6, i7, i8⟩ := I
  refine ⟨i1, i2, i3, i4, i5, i6, by rw [apS_sz]; omega, fun i hi => ?_⟩
  rw [apS_sz] at hi
  by_cases q : i = T.2.2.2.1 5
  · rw [q, apS_at0]
    refine ⟨h2, h7, fun j hj => ?_⟩
    have := hl j hj
    rw [apS_ats]
    omega
  · rw [apS_ne q]
    exact i8 i (by omega)
def SS (S : aS) (tx : Nat → Nat) (tl : Nat) : Nat → aS
  | 0 => S
  | k + 1 => if newB S tx tl k = true then apS (SS S tx tl k) tx tl k else SS S tx tl k
theorem SS_t {S : aS} {tx : Nat → Nat} {tl k : Nat} (h : newB S tx tl k = true) : SS S tx tl (k + 1) = apS (SS S tx tl k) tx tl k := if_pos h
theorem SS_f {S : aS} {tx : Nat → Nat} {tl k : Nat} (h : newB S tx tl k = false) : SS S tx tl (k + 1) = SS S tx tl k := if_neg (by rw [h]; decide)
theorem SS_sz (S : aS) (tx : Nat → Nat) (tl : Nat) : ∀ k, (SS S tx tl k).2.2.2.1 5 = S.2.2.2.1 5 + cn (newB S tx tl) k
  | 0 => rfl
  | k + 1 => by
    cases h : newB S tx tl k with
    | true => rw [SS_t h, apS_sz, SS_sz S tx tl k, cn_t h]; omega
    | false => rw [SS_f h, SS_sz S tx tl k, cn_f h]
theorem SS_1 (S : aS) (tx : Nat → Nat) (tl : Nat) : ∀ k, (SS S tx tl k).1 = S.1
  | 0 => rfl
  | k + 1 => by
    cases h : newB S tx tl k with
    | true => rw [SS_t h]; exact SS_1 S tx tl k
    | false => rw [SS_f h]; exact SS_1 S tx tl k
theorem newB_st {S : aS} {tx : Nat → Nat} {tl k : Nat} (h : newB S tx tl k = true) : isSt0 tx k = true := by
  unfold newB at h
  rw [Bool.and_eq_true] at h
  exact h.1
theorem Iv_SS {S : aS} {tx : Nat → Nat} {tl : Nat} (I : Iv S) (G : GT tx tl) : ∀ k, k ≤ tl → S.2.2.2.1 5 + cn (newB S tx tl) k ≤ 12 → Iv (SS S tx tl k)
  | 0, _, _ => I
  | k + 1, hk, h => by
    cases hn : newB S tx tl k with
    | true =>
      rw [cn_t hn] at h
      rw [SS_t hn]
      obtain ⟨g1, g2, g3⟩ := G.2.2 k (by omega) (newB_st hn)
      exact Iv_apS (Iv_SS I G k (by omega) (by omega)) (by rw [SS_sz]; omega) g1 g2 g3
    | false =>
      rw [cn_f hn] at h
      rw [SS_f hn]
      exact Iv_SS I G k (by omega) (by omega)
theorem beq_cm (a b : Nat) : (a == b) = (b == a) := by
  by_cases h : a = b
  · rw [h]
  · rw [beq_eq_false_iff_ne.mpr h, beq_eq_false_iff_ne.mpr (fun e => h e.symm)]
theorem onL_ap {T : aS} {tx : Nat → Nat} {tl k p : Nat} (hl : ∀ j, j < wlen tx tl k → 97 ≤ tx (k + j) ∧ tx (k + j) ≤ 122) : onL (apS T tx tl k) tx tl p = (onL T tx tl p || smB tx tl k p) := by
  unfold onL
  rw [apS_sz]
  show (anyB (fun i => swB (apS T tx tl k) tx tl p i) (T.2.2.2.1 5) || swB (apS T tx tl k) tx tl p (T.2.2.2.1 5)) = _
  have e1 : anyB (fun i => swB (apS T tx tl k) tx tl p i) (T.2.2.2.1 5) = anyB (fun i => swB T tx tl p i) (T.2.2.2.1 5) := anyB_cong (fun i hi => by
    unfold swB
    rw [apS_ne (by omega)])
  have e2 : swB (apS T tx tl k) tx tl p (T.2.2.2.1 5) = smB tx tl k p := by
    unfold swB smB
    rw [apS_at0]
    by_cases q : wlen tx tl k = wlen tx tl p
    · rw [← q]
      have e : allB (fun j => tx (p + j) == ec ((apS T tx tl k).2.2.2.2 (T.2.2.2.1 5) (j + 1))) (wlen tx tl k) = allB (fun j => tx (k + j) == tx (p + j)) (wlen tx tl k) := allB_cong (fun j hj => by
        have := hl j hj
        rw [apS_ats, ec_pos (by omega), show 96 + (tx (k + j) - 96) = tx (k + j) by omega, beq_cm])
      rw [e]
    · rw [beq_eq_false_iff_ne.mpr q, Bool.false_and, Bool.false_and]
  rw [e1, e2]
theorem sw_sm {T : aS} {tx : Nat → Nat} {tl k p i : Nat} (h1 : swB T tx tl k i = true) (h2 : smB tx tl k p = true) : swB T tx tl p i = true := by
  unfold swB at *
  unfold smB at h2
  rw [Bool.and_eq_true, beq_iff_eq, allB_iff] at *
  refine ⟨by rw [h1.1, h2.1], fun j hj => ?_⟩
  have a := h1.2 j (by omega)
  have b := h2.2 j (by omega)
  rw [beq_iff_eq] at *
  rw [← b, a]
theorem onL_sm {T : aS} {tx : Nat → Nat} {tl k p : Nat} (h1 : onL T tx tl k = true) (h2 : smB tx tl k p = true) : onL T tx tl p = true := by
  obtain ⟨i, hi, h⟩ := (anyB_iff (p := fun i => swB T tx tl k i) (n := T.2.2.2.1 5)).mp h1
  exact (anyB_iff (p := fun i => swB T tx tl p i) (n := T.2.2.2.1 5)).mpr ⟨i, hi, sw_sm h h2⟩
theorem onL_SS {S : aS} {tx : Nat → Nat} {tl : Nat} (G : GT tx tl) : ∀ k, k ≤ tl → ∀ p, onL (SS S tx tl k) tx tl p = (onL S tx tl p || rpB tx tl p k)
  | 0, _, p => by
    show _ = (_ || false)
    rw [Bool.or_false]; rfl
  | k + 1, hk, p => by
    have ih := onL_SS (S := S) G k (by omega)
    have er : rpB tx tl p (k + 1) = (rpB tx tl p k || (isSt0 tx k && smB tx tl k p)) := rfl
    rw [er]
    cases hn : newB S tx tl k with
    | true =>
      rw [SS_t hn, onL_ap (G.2.2 k (by omega) (newB_st hn)).2.2, ih p, newB_st hn, Bool.true_and, Bool.or_assoc]
    | false =>
      rw [SS_f hn, ih p]
      by_cases hs : isSt0 tx k = true
      · have ho : onL (SS S tx tl k) tx tl k = true := by
          rw [ih k]
          unfold newB at hn
          rw [hs, Bool.true_and] at hn
          cases h1 : onL S tx tl k <;> cases h2 : rpB tx tl k k <;> simp_all
        rw [hs, Bool.true_and]
        cases hm : smB tx tl k p with
        | false => rw [Bool.or_false]
        | true =>
          have := onL_sm ho hm
          rw [ih p] at this
          rw [Bool.or_true, Bool.or_true, this]
      · have hs' : isSt0 tx k = false := by simpa using hs
        rw [hs', Bool.false_and, Bool.or_false]
theorem newB_on {S : aS} {tx : Nat → Nat} {tl : Nat} (G : GT tx tl) {p : Nat} (hp : p ≤ tl) : newB S tx tl p = (isSt0 tx p && !(onL (SS S tx tl p) tx tl p)) := by
  rw [onL_SS G p hp p, Bool.not_or]
  rfl
theorem SS_cong {S : aS} {tx : Nat → Nat} {tl a : Nat} : ∀ n, (∀ q, a ≤ q → q < a + n → newB S tx tl q = false) → SS S tx tl (a + n) = SS S tx tl a ∧ cn (newB S tx tl) (a + n) = cn (newB S tx tl) a
  | 0, _ => ⟨rfl, rfl⟩
  | n + 1, h => by
    obtain ⟨x, y⟩ := SS_cong (S := S) (tx := tx) (tl := tl) (a := a) n (fun q h1 h2 => h q h1 (by omega))
    have := h (a + n) (by omega) (by omega)
    rw [← Nat.add_assoc, SS_f this, cn_f this]
    exact ⟨x, y⟩
theorem new_in {S : aS} {tx : Nat → Nat} {tl p q : Nat} (h1 : p < q) (h2 : q ≤ p + wlen tx tl p) : newB S tx tl q = false := by
  have := wlen_in (tx := tx) (tl := tl) (p := p) (j := q - 1 - p) (by omega)
  rw [show p + (q - 1 - p) = q - 1 by omega] at this
  cases h : newB S tx tl q with
  | false => rfl
  | true =>
    rcases isSt0_iff.mp (newB_st h) with e | e
    · omega
    · exact absurd e this.2
/-! the class -/
theorem X3_appendToList {z : zV} {T : aS} (R : RC0 z T) (I : Iv T) {tl : Nat} {tx : Nat → Nat} (h60 : tl ≤ 60) (hc : ∀ i, i < tl → tx i < 65536) (X : TX z tx tl) {p : Nat} (hp : p < tl) (h12 : T.2.2.2.1 5 < 12) (h7 : wlen tx tl p ≤ 7) (hl : ∀ j, j < wlen tx tl p → 97 ≤ tx (p + j) ∧ tx (p + j) ≤ 122) : ∃ z', f_X3_appendToList z (nI p) = some z' ∧ RC0 z' (apS T tx tl p) ∧ frC 0 z z' := by
  have hls := I.2.2.2.2.2.2.2
  have hwl := wlen_le (tx := tx) (Nat.le_of_lt hp)
  obtain ⟨r1, r2, r3, r4, r5, r6, r7, r8, r9, r10, r11⟩ := R
  rw [f_X3_appendToList, X1_wordLength h60 hc X (by omega), ob_eq, r6, ifle_f h12 (by omega), ifle_t h7 (by omega)]
  generalize hn : T.2.2.2.1 5 = N at *
  have key := lp_up (fun f k => l_X3_appendToList_30 f (sR z 4 (pt (z.2.1 4) (fun j => nI (tx (p + j))) (N * 7) k)) (nI p) (nI (wlen tx tl p)) (nI k)) (some (sI (sA (sR z 4 (pt (z.2.1 4) (fun j => nI (tx (p + j))) (N * 7) (wlen tx tl p))) 5 N (nI (wlen tx tl p))) 0 5 (nI (N + 1)))) (wlen tx tl p) (fun f => by
    have e1 : (sR z 4 (pt (z.2.1 4) (fun j => nI (tx (p + j))) (N * 7) (wlen tx tl p))).1 0 5 = nI N := r6
    have e2 : (sA (sR z 4 (pt (z.2.1 4) (fun j => nI (tx (p + j))) (N * 7) (wlen tx tl p))) 5 N (nI (wlen tx tl p))).1 0 5 = nI N := r6
    rw [l_X3_appendToList_30, ifle_t (by omega) (by omega), e1, wS_in (by omega) (by omega), pS_eq, e2, nI_add]) (fun f k hk => by
    have e1 : (sR z 4 (pt (z.2.1 4) (fun j => nI (tx (p + j))) (N * 7) k)).1 0 5 = nI N := r6
    rw [l_X3_appendToList_30, ifle_f hk (by omega), nI_add, rA_in (by omega) (by omega), sR_ne (by omega), X.2 _ (by omega), e1, pk_mul, nI_add, wS_in (by omega) (by omega), sA_R, pt_s (f := fun j => nI (tx (p + j))), nI_add]) 1000 0 (by omega) (by omega)
  rw [pt_0, sR_same] at key
  rw [key]
  refine ⟨_, rfl, ⟨fun c h => ?_, fun n h1 h2 => ?_, fun n h1 h2 => ?_, fun i h => ?_, fun i j h h' => ?_, ?_, ?_, ?_, ?_, ?_, ?_⟩, fun q h => ?_, fun q k h => ?_, rfl⟩
  · show (sA _ 5 N _).2.1 1 c = _
    rw [sA_ne (by omega), sR_ne (by omega)]; exact r1 c h
  · show (sA _ 5 N _).2.1 2 n = _
    rw [sA_ne (by omega), sR_ne (by omega)]; exact r2 n h1 h2
  · show (sA _ 5 N _).2.1 3 n = _
    rw [sA_ne (by omega), sR_ne (by omega)]; exact r3 n h1 h2
  · show (sA _ 5 N _).2.1 5 i = _
    rw [apS_sz, hn] at h
    rw [sA_at, sR_ne (by omega)]
    by_cases q : i = N
    · rw [q, upd_at, ← hn, apS_at0]
    · rw [upd_ne q, apS_ne (by omega)]; exact r4 i (by omega)
  · show (sA _ 5 N _).2.1 4 (i * 7 + j) = _
    rw [apS_sz, hn] at h
    rw [sA_ne (by omega), sR_at]
    by_cases q : i = N
    · subst q
      rw [← hn, apS_at0] at h'
      have := hl j h'
      rw [pt_in (f := fun j => nI (tx (p + j))) h']
      show nI (tx (p + j)) = _
      rw [← hn, apS_ats, ec_pos (by omega), show 96 + (tx (p + j) - 96) = tx (p + j) by omega]
    · rw [apS_ne (by omega)] at h' ⊢
      have := (hls i (by omega)).2.1
      rw [pt_out (by omega)]; exact r5 i j (by omega) h'
  · rw [sI_at, apS_sz, hn]
  · rw [sI_ne (by omega)]; exact r7
  · rw [sI_ne (by omega)]; exact r8
  · rw [sI_ne (by omega)]; exact r9
  · rw [sI_ne (by omega)]; exact r10
  · rw [sI_ne (by omega)]; exact r11
  · show (sA _ 5 N _).2.1 q = _
    rw [sA_ne (by omega), sR_ne (by omega)]
  · rw [sI_ne (Or.inl h)]; rfl
theorem TX_frC {z z' : zV} {tx : Nat → Nat} {tl : Nat} (F : frC 0 z z') (X : TX z tx tl) : TX z' tx tl := ⟨by rw [F.2.1 40 1 (by omega)]; exact X.1, fun i h => by rw [F.1 41 (by omega)]; exact X.2 i h⟩
theorem X3_addWords52 {z1 : zV} {S : aS} {tl : Nat} {tx : Nat → Nat} (I : Iv S) (G : GT tx tl) (X : TX z1 tx tl) (hcap : S.2.2.2.1 5 + cn (newB S tx tl) tl ≤ 12) (c : Int32) : ∀ (f k : Nat) (y : zV), k ≤ tl → tl - k < f → RC0 y (SS S tx tl k) → frC 0 z1 y → ∃ z2, l_X3_addWords_52 f y c (nI k) = some (c, z2) ∧ RC0 z2 (SS S tx tl tl) ∧ frC 0 z1 z2 := by
  have h60 := G.1
  intro f
  induction f with
  | zero => intro k y h1 h2; omega
  | succ f ih =>
    intro k y h1 h2 R F
    have Xy := TX_frC F X
    rw [l_X3_addWords_52, Xy.1]
    by_cases q : k = tl
    · subst q
      rw [ifle_t (by omega) (by omega)]
      exact ⟨y, rfl, R, F⟩
    · have hk : k < tl := by omega
      have m1 := cn_mono (p := newB S tx tl) h1
      have m2 := cn_mono (p := newB S tx tl) (show k + 1 ≤ tl from hk)
      have Ik := Iv_SS I G k h1 (by omega)
      have hno := newB_on (S := S) G h1
      rw [ifle_f hk (by omega), X1_startsWord h60 G.2.1 Xy h1, ob_eq, ifb2, X3_isListedT R Ik h60 G.2.1 Xy h1, ob_eq, ifb2, nI_add]
      by_cases hs : isSt0 tx k = true
      · rw [hs, Bool.true_and] at hno
        rw [if_pos hs]
        by_cases ho : onL (SS S tx tl k) tx tl k = true
        · rw [ho] at hno
          rw [if_pos ho]
          exact ih (k + 1) y (by omega) (by omega) (by rw [SS_f hno]; exact R) F
        · have ho' : onL (SS S tx tl k) tx tl k = false := by simpa using ho
          rw [ho'] at hno
          have hno' : newB S tx tl k = true := hno
          rw [cn_t hno'] at m2
          obtain ⟨g1, g2, g3⟩ := G.2.2 k hk hs
          obtain ⟨z', e, R', F'⟩ := X3_appendToList R Ik h60 G.2.1 Xy hk (by rw [SS_sz]; omega) g2 g3
          rw [if_neg ho, e, ob_eq]
          exact ih (k + 1) z' (by omega) (by omega) (by rw [SS_t hno']; exact R') (frC_tr F F')
      · have hs' : isSt0 tx k = false := by simpa using hs
        rw [hs', Bool.false_and] at hno
        rw [if_neg hs]
        exact ih (k + 1) y (by omega) (by omega) (by rw [SS_f hno]; exact R) F
