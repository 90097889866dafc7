/-! SOLD AND POSSIBLE: what a word is worth, which letters a number could be -/
theorem X3_bitOf (z : zV) {l : Nat} (h1 : 1 ≤ l) (h2 : l ≤ 26) : f_X3_bitOf z (nI (ec l)) = some (nI (2 ^ (l - 1))) := by
  have key : ∀ k, k < 26 → nI 1 <<< (nI k &&& 31) = nI (2 ^ k) := by decide +kernel
  rw [f_X3_bitOf, ec_pos (by omega), pk_sub (by omega), show 96 + l - 97 = l - 1 by omega, key (l - 1) (by omega)]
/-- the sum over the places that a number has first is the sum over the numbers -/
theorem sm_add (f g : Nat → Nat) : ∀ n, sm (fun k => f k + g k) n = sm f n + sm g n
  | 0 => rfl
  | n + 1 => by rw [sm, sm, sm, sm_add f g n]; omega
theorem sm_zero {f : Nat → Nat} : ∀ {n : Nat}, (∀ k, k < n → f k = 0) → sm f n = 0
  | 0, _ => rfl
  | n + 1, h => by rw [sm, sm_zero (fun k hk => h k (by omega)), h n (by omega)]
theorem sm_one {a c : Nat} : ∀ {n : Nat}, a < n → sm (fun j => if j = a then c else 0) n = c
  | n + 1, h => by
    rw [sm]
    by_cases e : a = n
    · subst e
      rw [sm_zero (fun k hk => if_neg (by omega)), if_pos rfl]
      omega
    · rw [sm_one (show a < n by omega), if_neg (fun q => e q.symm)]
      omega
theorem sm_first (N F : Nat → Nat) : ∀ n, (∀ k, k < n → 1 ≤ N k ∧ N k ≤ 26) → sm (fun k => if allB (fun i => !(N i == N k)) k = true then F (N k) else 0) n = sm (fun j => if anyB (fun k => N k == j + 1) n = true then F (j + 1) else 0) 26
  | 0, _ => by
    rw [sm, sm_zero (fun k hk => by rw [anyB]; simp)]
  | n + 1, h => by
    have ih := sm_first N F n (fun k hk => h k (by omega))
    obtain ⟨h1, h2⟩ := h n (by omega)
    rw [sm, ih]
    have hone := sm_one (a := N n - 1) (c := if allB (fun i => !(N i == N n)) n = true then F (N n) else 0) (n := 26) (by omega)
    rw [← hone, ← sm_add]
    refine sm_cong (fun j hj => ?_)
    rw [anyB]
    by_cases e : j = N n - 1
    · have e2 : N n = j + 1 := by omega
      rw [if_pos e, e2]
      by_cases q : anyB (fun k => N k == j + 1) n = true
      · obtain ⟨i, hi, hi2⟩ := anyB_iff.mp q
        have hf : allB (fun i => !(N i == j + 1)) n = false := allB_f (k := i) hi (by simpa using hi2)
        rw [if_pos q, hf, q]
        simp
      · have q' : anyB (fun k => N k == j + 1) n = false := by simpa using q
        have hf : allB (fun i => !(N i == j + 1)) n = true := allB_t (fun k hk => by
          by_cases c : N k = j + 1
          · have := anyB_t (p := fun k => N k == j + 1) hk (by simpa using c)
            rw [q'] at this
            cases this
          · simpa using c)
        rw [if_neg q, hf, q']
        simp
    · have e2 : N n ≠ j + 1 := by omega
      rw [if_neg e]
      simp [e2]
def por (S : aS) (w : Nat) : Nat := sm (fun k => if S.2.1 (nAt S (cl S w k)) = 0 ∧ fpl S w (nAt S (cl S w k)) = k then pr S (nAt S (cl S w k)) else 0) (wn S w)
def wor (S : aS) (w : Nat) : Nat := sm (fun j => if S.2.1 (j + 1) = 0 ∧ hasN S w (j + 1) = true then pr S (j + 1) else 0) 26
theorem fpl_all {S : aS} {w k : Nat} (hk : k < wn S w) : fpl S w (nAt S (cl S w k)) = k ↔ allB (fun i => !(nAt S (cl S w i) == nAt S (cl S w k))) k = true := by
  have hle : fpl S w (nAt S (cl S w k)) ≤ k := by
    rcases Nat.lt_or_ge k (fpl S w (nAt S (cl S w k))) with q | q
    · have := fst1_no (p := fun i => nAt S (cl S w i) == nAt S (cl S w k)) (n := wn S w) (k := k) q
      simp at this
    · exact q
  constructor
  · intro e
    refine allB_t (fun i hi => ?_)
    have := fst1_no (p := fun i => nAt S (cl S w i) == nAt S (cl S w k)) (n := wn S w) (k := i) (by unfold fpl at e; omega)
    simpa using this
  · intro h
    by_cases q : fpl S w (nAt S (cl S w k)) = k
    · exact q
    · have hy := fst1_yes (p := fun i => nAt S (cl S w i) == nAt S (cl S w k)) (n := wn S w) (by unfold fpl at hle q; omega)
      have := allB_iff.mp h (fpl S w (nAt S (cl S w k))) (by omega)
      unfold fpl at this
      rw [hy] at this
      cases this
theorem por_wor {S : aS} {w : Nat} (h : w < nw S) : por S w = wor S w := by
  have e := sm_first (fun k => nAt S (cl S w k)) (fun m => if S.2.1 m = 0 then pr S m else 0) (wn S w) (fun k hk => ⟨nAt_pos (cl_in h hk).2, nAt_le S _⟩)
  have e1 : por S w = sm (fun k => if allB (fun i => !(nAt S (cl S w i) == nAt S (cl S w k))) k = true then (if S.2.1 (nAt S (cl S w k)) = 0 then pr S (nAt S (cl S w k)) else 0) else 0) (wn S w) := sm_cong (fun k hk => by
    by_cases a : allB (fun i => !(nAt S (cl S w i) == nAt S (cl S w k))) k = true
    · rw [if_pos a]
      by_cases b : S.2.1 (nAt S (cl S w k)) = 0
      · rw [if_pos b, if_pos ⟨b, (fpl_all hk).mpr a⟩]
      · rw [if_neg b, if_neg (fun q => b q.1)]
    · rw [if_neg a, if_neg (fun q => a ((fpl_all hk).mp q.2))])
  have e2 : wor S w = sm (fun j => if anyB (fun k => nAt S (cl S w k) == j + 1) (wn S w) = true then (if S.2.1 (j + 1) = 0 then pr S (j + 1) else 0) else 0) 26 := sm_cong (fun j hj => by
    show (if S.2.1 (j + 1) = 0 ∧ anyB (fun k => nAt S (cl S w k) == j + 1) (wn S w) = true then _ else _) = _
    by_cases a : anyB (fun k => nAt S (cl S w k) == j + 1) (wn S w) = true
    · rw [if_pos a]
      by_cases b : S.2.1 (j + 1) = 0
      · rw [if_pos b, if_pos ⟨b, a⟩]
      · rw [if_neg b, if_neg (fun q => b q.1)]
    · rw [if_neg a, if_neg (fun q => a q.2)])
  rw [e1, e2]
  exact e
theorem X3_priceOfRest {z : zV} {S : aS} (R : RC0 z S) (I : Iv S) (W : RW z (wl S.1)) {w : Nat} (h : w < nw S) : f_X3_priceOfRest z (nI w) = some (nI (wor S w)) := by
  have h28 := nw_le S
  have hw := wn_in h
  rw [f_X3_priceOfRest, ← por_wor h]
  refine lp_up (fun f k => l_X3_priceOfRest_4 z f (nI w) (nI (sm (fun k => if S.2.1 (nAt S (cl S w k)) = 0 ∧ fpl S w (nAt S (cl S w k)) = k then pr S (nAt S (cl S w k)) else 0) k)) (nI k)) _ (wn S w) (fun f => ?_) (fun f k hk => ?_) 1000 0 (by omega) (by omega)
  · rw [l_X3_priceOfRest_4, rA_in (by omega) (by omega), (RW_at W h).2.1, ifle_t (by omega) (by omega)]
    rfl
  · have hc := cl_in h hk
    have h1 := nAt_pos hc.2
    have h2 := nAt_le S (cl S w k)
    have h3 : fpl S w (nAt S (cl S w k)) ≤ wn S w := fst1_le _ _
    rw [l_X3_priceOfRest_4, rA_in (by omega) (by omega), (RW_at W h).2.1, ifle_f (by omega) (by omega), X3_numberIn R I W h hk, ob_eq, X3_isUnguessed R I h1 h2, ob_eq, ifb2, sm]
    by_cases a : S.2.1 (nAt S (cl S w k)) = 0
    · rw [if_pos (by simpa using a), X3_firstPlaceOf R I W h h2, ob_eq]
      by_cases b : fpl S w (nAt S (cl S w k)) = k
      · rw [ifeq_t b, X0_priceOf R I h2, ob_eq, nI_add, nI_add, if_pos ⟨a, b⟩]
      · rw [ifeq_f b (by omega) (by omega), nI_add, if_neg (fun q => b q.2)]
        rfl
    · rw [if_neg (by simpa using a), nI_add, if_neg (fun q => a q.1)]
      rfl
theorem X4_worth {m : zV} {S : aS} (R : RM0 m S) (I : Iv S) (W : RV m (wl S.1)) {w : Nat} (h : w < nw S) : f_X4_worth m (nI w) = some (nI (wor S w)) := by
  rw [f_X4_worth]
  refine lp_up (fun f k => l_X4_worth_4 m f (nI w) (nI (sm (fun j => if S.2.1 (j + 1) = 0 ∧ hasN S w (j + 1) = true then pr S (j + 1) else 0) k)) (nI (k + 1))) _ 26 (fun f => ?_) (fun f k hk => ?_) 1000 0 (by omega) (by omega)
  · rw [l_X4_worth_4, iflt_t (by omega) (by omega)]
    rfl
  · rw [l_X4_worth_4, iflt_f (by omega) (by omega), nI_add, rA_in (by omega) (by omega), R.2.1 _ (by omega) (by omega), ifem0 (I.2.2.1 _ (by omega) (by omega)), sm]
    by_cases a : S.2.1 (k + 1) = 0
    · rw [if_pos a, X4_hasNumber R I W h (by omega), ob_eq, ifb2]
      by_cases b : hasN S w (k + 1) = true
      · rw [if_pos b, X4_priceOf R I (by omega) (by omega), ob_eq, nI_add, nI_add, if_pos ⟨a, b⟩]
      · rw [if_neg b, nI_add, nI_add, if_neg (fun q => b q.2)]
    · rw [if_neg a, nI_add, nI_add, if_neg (fun q => a q.1)]
/-! which letters: the class keeps them as bits -/
def offB (S : aS) (w n l : Nat) : Bool := anyB (fun i => fitB S w i && S.2.2.2.2 i (fpl S w n + 1) == l + 1) (S.2.2.2.1 5)
def okw (S : aS) (w n l : Nat) : Bool := !(hasN S w n) || ftl S w == 0 || offB S w n l
def posB (S : aS) (n l : Nat) : Bool := !(otherG S (l + 1) n) && allB (fun w => okw S w n l) (nw S)
theorem hasN_fpl {S : aS} {w n : Nat} : hasN S w n = decide (fpl S w n < wn S w) := fst1_any
theorem offB_none {S : aS} {w n : Nat} (h : ftl S w = 0) (l : Nat) : offB S w n l = false := anyB_f (fun i hi => by
  have : fitB S w i = false := by
    by_cases q : fitB S w i = true
    · have := cn_pos (p := fun i => fitB S w i) |>.mpr ⟨i, hi, q⟩
      unfold ftl at h
      omega
    · simpa using q
  rw [this, Bool.false_and])
theorem offB_some {S : aS} (I : Iv S) {w n : Nat} (hw : w < nw S) (h : hasN S w n = true) (h2 : ftl S w ≠ 0) : ∃ l, l < 26 ∧ offB S w n l = true := by
  obtain ⟨i, hi, q⟩ := cn_pos.mp (show 0 < cn (fun i => fitB S w i) (S.2.2.2.1 5) by unfold ftl at h2; omega)
  rw [hasN_fpl, decide_eq_true_eq] at h
  have e : wn S w = S.2.2.2.2 i 0 := by
    have q2 := q
    unfold fitB at q2
    rw [Bool.and_eq_true] at q2
    simpa using q2.1
  have hl := ll_in I hi (j := fpl S w n) (by omega)
  refine ⟨S.2.2.2.2 i (fpl S w n + 1) - 1, by omega, anyB_t hi ?_⟩
  rw [q, Bool.true_and, show S.2.2.2.2 i (fpl S w n + 1) - 1 + 1 = S.2.2.2.2 i (fpl S w n + 1) by omega]
  simp
/-- a mask below 2^26 with just the letters of p -/
def MK (x : Nat) (p : Nat → Bool) : Prop := x < 67108864 ∧ ∀ l, l < 26 → x.testBit l = p l
theorem MK_0 {x : Nat} {p : Nat → Bool} (h : MK x p) : x = 0 ↔ ∀ l, l < 26 → p l = false := by
  constructor
  · rintro rfl l hl
    rw [← h.2 l hl]
    exact Nat.zero_testBit l
  · intro hp
    apply Nat.eq_of_testBit_eq
    intro i
    rw [Nat.zero_testBit]
    by_cases hi : i < 26
    · rw [h.2 i hi, hp i hi]
    · exact Nat.testBit_lt_two_pow (Nat.lt_of_lt_of_le h.1 (Nat.pow_le_pow_right (n := 2) (by omega) (show 26 ≤ i by omega)))
theorem tb_pow (a i : Nat) : (2 ^ a).testBit i = decide (a = i) := Nat.testBit_two_pow
theorem X3_offered {z : zV} {S : aS} (R : RC0 z S) (I : Iv S) (W : RW z (wl S.1)) {w n : Nat} (h : w < nw S) (hn : n ≤ 26) : ∃ x, f_X3_offeredLetters z (nI w) (nI n) = some (nI x) ∧ MK x (fun l => hasN S w n && offB S w n l) := by
  have h28 := nw_le S
  have hw := wn_in h
  have h12 := I.2.2.2.2.2.2.1
  have hfl : fpl S w n ≤ wn S w := fst1_le _ _
  rw [f_X3_offeredLetters, X3_firstPlaceOf R I W h hn, ob_eq, rA_in (by omega) (by omega), (RW_at W h).2.1]
  by_cases q : fpl S w n < wn S w
  · have hh : hasN S w n = true := by rw [hasN_fpl]; exact decide_eq_true q
    rw [iflt_t q (by omega), hh]
    have key : ∀ (f k x : Nat), k ≤ S.2.2.2.1 5 → S.2.2.2.1 5 - k < f → MK x (fun l => anyB (fun i => fitB S w i && S.2.2.2.2 i (fpl S w n + 1) == l + 1) k) → ∃ y, l_X3_offeredLetters_28 z f (nI w) (nI (fpl S w n)) (nI x) (nI k) = some (nI y) ∧ MK y (fun l => offB S w n l) := by
      intro f
      induction f with
      | zero => intro k x _ h; omega
      | succ f ih =>
        intro k x hk hf hx
        rw [l_X3_offeredLetters_28, R.2.2.2.2.2.1]
        by_cases e : k = S.2.2.2.1 5
        · rw [ifle_t (by omega) (by omega)]
          subst e
          exact ⟨x, rfl, hx⟩
        · rw [ifle_f (by omega) (by omega), X3_isFitting R I W h (by omega), ob_eq, ifb2, nI_add]
          by_cases c : fitB S w k = true
          · have e2 : wn S w = S.2.2.2.2 k 0 := by
              have q2 := c
              unfold fitB at q2
              rw [Bool.and_eq_true] at q2
              simpa using q2.1
            have hl := ll_in I (show k < S.2.2.2.1 5 by omega) (j := fpl S w n) (by omega)
            rw [if_pos c, X0_listedLetter R I (by omega) (by omega), ob_eq, X3_bitOf z hl.1 hl.2, ob_eq, nI_or]
            refine ih (k + 1) _ (by omega) (by omega) ⟨?_, fun l hl2 => ?_⟩
            · exact Nat.or_lt_two_pow (n := 26) hx.1 (Nat.pow_lt_pow_right (by omega) (by omega))
            · have hxl := hx.2 l hl2
              dsimp only at hxl ⊢
              have eb : decide (S.2.2.2.2 k (fpl S w n + 1) - 1 = l) = (S.2.2.2.2 k (fpl S w n + 1) == l + 1) := by
                by_cases c2 : S.2.2.2.2 k (fpl S w n + 1) = l + 1
                · rw [c2]; simp
                · have c3 : S.2.2.2.2 k (fpl S w n + 1) - 1 ≠ l := by omega
                  have c4 : (S.2.2.2.2 k (fpl S w n + 1) == l + 1) = false := by simpa using c2
                  rw [c4]; simp [c3]
              rw [Nat.testBit_or, hxl, tb_pow, anyB, c, Bool.true_and, eb]
          · have c' : fitB S w k = false := by simpa using c
            rw [if_neg c]
            refine ih (k + 1) x (by omega) (by omega) ⟨hx.1, fun l hl2 => ?_⟩
            have hxl := hx.2 l hl2
            dsimp only at hxl ⊢
            rw [hxl, anyB, c', Bool.false_and, Bool.or_false]
    obtain ⟨y, e1, e2⟩ := key 1000 0 0 (by omega) (by omega) ⟨by omega, fun l hl => by rw [Nat.zero_testBit]; rfl⟩
    refine ⟨y, e1, e2.1, fun l hl => by rw [e2.2 l hl]; exact (Bool.true_and _).symm⟩
  · have hh : hasN S w n = false := by rw [hasN_fpl]; exact decide_eq_false q
    rw [iflt_f (by omega) (by omega), hh]
    exact ⟨0, rfl, by omega, fun l hl => by rw [Nat.zero_testBit]; rfl⟩
theorem X3_possible {z : zV} {S : aS} (R : RC0 z S) (I : Iv S) (W : RW z (wl S.1)) {n : Nat} (hn : n ≤ 26) : ∃ x, f_X3_possibleLetters z (nI n) = some (nI x) ∧ MK x (fun l => posB S n l) := by
  have h28 := nw_le S
  have words : ∀ (f k x : Nat), k ≤ nw S → nw S - k < f → MK x (fun l => !(otherG S (l + 1) n) && allB (fun w => okw S w n l) k) → ∃ y, l_X3_possibleLetters_39 z f (nI n) (nI x) (nI k) = some (nI y) ∧ MK y (fun l => posB S n l) := by
    intro f
    induction f with
    | zero => intro k x _ h; omega
    | succ f ih =>
      intro k x hk hf hx
      rw [l_X3_possibleLetters_39, RW_n W]
      by_cases e : k = nw S
      · rw [ifle_t (by omega) (by omega)]
        subst e
        exact ⟨x, rfl, hx⟩
      · obtain ⟨v, ev, hv⟩ := X3_offered R I W (w := k) (n := n) (by omega) hn
        rw [ifle_f (by omega) (by omega), ev, ob_eq, nI_add]
        by_cases c : v = 0
        · have hz := (MK_0 hv).mp c
          rw [ifeq_t c]
          refine ih (k + 1) x (by omega) (by omega) ⟨hx.1, fun l hl => ?_⟩
          have hxl := hx.2 l hl
          dsimp only at hxl ⊢
          rw [hxl, allB]
          have : okw S k n l = true := by
            unfold okw
            by_cases a : hasN S k n = true
            · by_cases b : ftl S k = 0
              · rw [b]; simp
              · obtain ⟨l2, h1, h2⟩ := offB_some I (by omega) a b
                have := hz l2 h1
                rw [a, h2] at this
                cases this
            · have a' : hasN S k n = false := by simpa using a
              rw [a']; simp
          rw [this, Bool.and_true]
        · rw [ifeq_f c (by have := hv.1; omega) (by omega), nI_and]
          have hx1 := hx.1
          refine ih (k + 1) _ (by omega) (by omega) ⟨Nat.lt_of_le_of_lt Nat.and_le_left hx1, fun l hl => ?_⟩
          have hxl := hx.2 l hl
          dsimp only at hxl ⊢
          have hvl := hv.2 l hl
          dsimp only at hvl
          rw [Nat.testBit_and, hxl, hvl, allB, Bool.and_assoc]
          have : (hasN S k n && offB S k n l) = okw S k n l := by
            unfold okw
            by_cases a : hasN S k n = true
            · by_cases b : ftl S k = 0
              · exact absurd ((MK_0 hv).mpr (fun l2 _ => by rw [offB_none b, Bool.and_false])) c
              · have b' : (ftl S k == 0) = false := by simpa using b
                rw [a, b']; simp
            · have a' : hasN S k n = false := by simpa using a
              exact absurd ((MK_0 hv).mpr (fun l2 _ => by rw [a', Bool.false_and])) c
          rw [this]
  have letters : ∀ (f k x : Nat), k ≤ 26 → 26 - k < f → MK x (fun l => decide (k ≤ l) || !(otherG S (l + 1) n)) → ∃ y, l_X3_possibleLetters_7 z f (nI n) (nI x) (nI (97 + k)) = some (nI y) ∧ MK y (fun l => posB S n l) := by
    intro f
    induction f with
    | zero => intro k x _ h; omega
    | succ f ih =>
      intro k x hk hf hx
      rw [l_X3_possibleLetters_7]
      by_cases e : k = 26
      · subst e
        rw [iflt_t (by omega) (by omega)]
        refine words 1000 0 x (by omega) (by omega) ⟨hx.1, fun l hl => ?_⟩
        have hxl := hx.2 l hl
        dsimp only at hxl ⊢
        rw [hxl, allB, Bool.and_true]
        have : ¬ 26 ≤ l := by omega
        simp [this]
      · have hec : 97 + k = ec (k + 1) := by rw [ec_pos (by omega)]; omega
        rw [iflt_f (by omega) (by omega), hec, X3_isGuessOfAnother R I (by omega) (by omega) hn, ob_eq, ifb2, ← hec, nI_add]
        by_cases c : otherG S (k + 1) n = true
        · have hbo := X3_bitOf z (l := k + 1) (by omega) (by omega)
          rw [← hec] at hbo
          rw [if_pos c, hbo, ob_eq, nI_m1, nI_xor, nI_and, show k + 1 - 1 = k by omega]
          have hx1 := hx.1
          refine ih (k + 1) _ (by omega) (by omega) ⟨Nat.lt_of_le_of_lt Nat.and_le_left hx1, fun l hl => ?_⟩
          have hxl := hx.2 l hl
          dsimp only at hxl ⊢
          have hm : Nat.testBit 4294967295 l = true := by
            have := Nat.testBit_two_pow_sub_one 32 l
            rw [show (2 : Nat) ^ 32 - 1 = 4294967295 by decide] at this
            rw [this]
            simp
            omega
          rw [Nat.testBit_and, hxl, Nat.testBit_xor, tb_pow, hm]
          by_cases d : k = l
          · subst d
            have : ¬ k + 1 ≤ k := by omega
            simp [c, this]
          · by_cases d2 : k ≤ l
            · have : k + 1 ≤ l := by omega
              simp [d, d2, this]
            · have : ¬ k + 1 ≤ l := by omega
              simp [d, d2, this]
        · have c' : otherG S (k + 1) n = false := by simpa using c
          rw [if_neg c]
          refine ih (k + 1) x (by omega) (by omega) ⟨hx.1, fun l hl => ?_⟩
          have hxl := hx.2 l hl
          dsimp only at hxl ⊢
          rw [hxl]
          by_cases d : k = l
          · subst d
            simp [c']
          · by_cases d2 : k ≤ l
            · have : k + 1 ≤ l := by omega
              simp [d2, this]
            · have : ¬ k + 1 ≤ l := by omega
              simp [d2, this]
  rw [f_X3_possibleLetters]
  refine letters 1000 0 67108863 (by omega) (by omega) ⟨by omega, fun l hl => ?_⟩
  have := Nat.testBit_two_pow_sub_one 26 l
  rw [show (2 : Nat) ^ 26 - 1 = 67108863 by decide] at this
  rw [this]
  simp [hl]
def lowB (p : Nat → Bool) : Int32 := on5 (decide (fst1 p 26 < 26)) (97 + fst1 p 26)
theorem X3_lowest (z : zV) {x : Nat} {p : Nat → Bool} (h : MK x p) : f_X3_lowestLetter z (nI x) = some (lowB p) := by
  have hx := h.1
  have hbit : ∀ k, k < 26 → ((nI x &&& nI (2 ^ k)) = nI 0 ↔ p k = false) := by
    intro k hk
    rw [nI_and]
    have hlt : x &&& 2 ^ k < 67108864 := Nat.lt_of_le_of_lt Nat.and_le_left hx
    have hz : x &&& 2 ^ k = 0 ↔ p k = false := by
      rw [← h.2 k hk]
      constructor
      · intro e
        have := congrArg (fun y => Nat.testBit y k) e
        simp only [Nat.testBit_and, tb_pow, decide_true, Bool.and_true, Nat.zero_testBit] at this
        exact this
      · intro e
        apply Nat.eq_of_testBit_eq
        intro i
        rw [Nat.testBit_and, tb_pow, Nat.zero_testBit]
        by_cases q : k = i
        · subst q; rw [e, Bool.false_and]
        · simp [q]
    rw [← hz, nI_eq (by omega) (by omega)]
  rw [f_X3_lowestLetter]
  refine lp_fst (L := fun f k => l_X3_lowestLetter_3 z f (nI x) (nI (97 + k))) p 26 (fun k => some (on5 (decide (k < 26)) (97 + k))) (fun f => ?_) (fun f k hk q => ?_) (fun f k hk q => ?_) 1000 (by omega)
  · rw [l_X3_lowestLetter_3, iflt_t (by omega) (by omega)]; rfl
  · have hec : 97 + k = ec (k + 1) := by rw [ec_pos (by omega)]; omega
    have hne : ¬ (nI x &&& nI (2 ^ k)) = nI 0 := fun q2 => by rw [(hbit k hk).mp q2] at q; cases q
    rw [l_X3_lowestLetter_3, iflt_f (by omega) (by omega), hec, X3_bitOf z (by omega) (by omega), ob_eq, show k + 1 - 1 = k by omega, if_neg hne, ← hec]
    simp [on5, hk]
  · have hec : 97 + k = ec (k + 1) := by rw [ec_pos (by omega)]; omega
    have he := (hbit k hk).mpr q
    rw [l_X3_lowestLetter_3, iflt_f (by omega) (by omega), hec, X3_bitOf z (by omega) (by omega), ob_eq, show k + 1 - 1 = k by omega, if_pos he, ← hec, nI_add]
    rfl
theorem MK_cn {x : Nat} {p : Nat → Bool} (h : MK x p) : cn (fun i => x.testBit i) 32 = cn p 26 := by
  rw [show 32 = 26 + 6 by rfl, cn_split, cn_cong (fun k hk => h.2 k hk)]
  have : cn (fun k => x.testBit (26 + k)) 6 = 0 := by
    have h2 := cn_pos (p := fun k => x.testBit (26 + k)) (n := 6)
    by_cases q : 0 < cn (fun k => x.testBit (26 + k)) 6
    · obtain ⟨k, -, a⟩ := h2.mp q
      have : x.testBit (26 + k) = false := Nat.testBit_lt_two_pow (Nat.lt_of_lt_of_le h.1 (Nat.pow_le_pow_right (n := 2) (by omega) (show 26 ≤ 26 + k by omega)))
      rw [this] at a
      cases a
    · omega
  rw [this, Nat.add_zero]
