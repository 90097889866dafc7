/-! THE ACTS (4): setRow -/
def okch (c : Nat) : Bool := c == 46 || (decide (97 ≤ c) && decide (c ≤ 122))
theorem X3_isLetterN (z : zV) {c : Nat} (h : c < 65536) : f_X3_isLetter z (nI c) = some (b2 (decide (97 ≤ c) && decide (c ≤ 122))) := by
  rw [X3_isLetter, inR_nI (by omega)]
  by_cases q : 97 ≤ c ∧ c ≤ 122
  · rw [decide_eq_true (by omega), decide_eq_true q.1, decide_eq_true q.2]; rfl
  · rw [decide_eq_false (by omega)]
    by_cases q1 : 97 ≤ c
    · rw [decide_eq_false (show ¬ c ≤ 122 by omega), Bool.and_false]
    · rw [decide_eq_false q1, Bool.false_and]
theorem X4_isLetterN {m : zV} {i c : Nat} (hi : i < 60) (hx : m.2.1 8 i = nI c) (h : c < 65536) : f_X4_isLetter m (nI i) = some (b2 (decide (97 ≤ c) && decide (c ≤ 122))) := by
  rw [f_X4_isLetter, rA_in hi (by omega), hx, X4_inL m _ (by omega) (by omega), ob_eq, rB_b2, inR_nI (by omega)]
  by_cases q : 97 ≤ c ∧ c ≤ 122
  · rw [decide_eq_true (by omega), decide_eq_true q.1, decide_eq_true q.2]; rfl
  · rw [decide_eq_false (by omega)]
    by_cases q1 : 97 ≤ c
    · rw [decide_eq_false (show ¬ c ≤ 122 by omega), Bool.and_false]
    · rw [decide_eq_false q1, Bool.false_and]
theorem T_rowFault {z m : zV} {tl : Nat} {tx : Nat → Nat} (h60 : tl ≤ 60) (hc : ∀ i, i < tl → tx i < 65536) (ht : z.1 40 1 = nI tl) (hx : ∀ i, i < tl → z.2.1 41 i = nI (tx i)) (hm : m.1 0 11 = nI tl) (hy : ∀ i, i < tl → m.2.1 8 i = nI (tx i)) : (∃ p, p ≤ 7 ∧ f_X1_faultAsRow z = some (nI p) ∧ f_X4_faultOfRow m = some (nI p)) ∨ (f_X1_faultAsRow z = some (-1) ∧ f_X4_faultOfRow m = some (-5) ∧ ∀ i, i < tl → i < 7 → okch (tx i) = true) := by
  have key : ∀ f k, k ≤ tl → k ≤ 7 → 7 - k < f → (∀ i, i < k → okch (tx i) = true) → (∃ p, p ≤ 7 ∧ l_X1_faultAsRow_2 z f (nI k) = some (nI p) ∧ l_X4_faultOfRow_2 m f (nI k) = some (nI p)) ∨ (l_X1_faultAsRow_2 z f (nI k) = some (-1) ∧ l_X4_faultOfRow_2 m f (nI k) = some (-5) ∧ ∀ i, i < tl → i < 7 → okch (tx i) = true) := by
    intro f
    induction f with
    | zero => intro k h1 h2 h3; omega
    | succ f ih =>
      intro k h1 h2 h3 h4
      rw [l_X1_faultAsRow_2, l_X4_faultOfRow_2, ht, hm]
      by_cases q : k = tl
      · subst q
        rw [ifle_t (by omega) (by omega), ifle_t (by omega) (by omega), j_X4_faultOfRow_41, hm]
        by_cases q0 : k = 0
        · subst q0
          rw [if_pos rfl, if_pos (by decide)]
          exact Or.inl ⟨0, by omega, rfl, rfl⟩
        · rw [ifeq_f q0 (by omega) (by omega), ifle_f (by omega) (by omega), if_pos rfl]
          exact Or.inr ⟨rfl, rfl, fun i h _ => h4 i h⟩
      · rw [ifle_f (a := tl) (b := k) (by omega) (by omega), ifle_f (a := tl) (b := k) (by omega) (by omega)]
        have stop : j_X4_faultOfRow_41 m (nI k) = some (nI k) := by
          rw [j_X4_faultOfRow_41, hm]
          by_cases q0 : k = 0
          · rw [ifle_t (by omega) (by omega)]
          · rw [ifle_f (by omega) (by omega), ifeq_f q (by omega) (by omega)]
        by_cases q7 : k = 7
        · rw [ifle_t (a := 7) (b := k) (by omega) (by omega), ifle_t (a := 7) (b := k) (by omega) (by omega), stop]
          exact Or.inl ⟨k, h2, rfl, rfl⟩
        · have hck := hc k (by omega)
          rw [ifle_f (a := 7) (b := k) (by omega) (by omega), ifle_f (a := 7) (b := k) (by omega) (by omega), rA_in (f := z.2.1 41) (by omega) (by omega), hx k (by omega), X3_isLetterN z hck, ob_eq, ifb2, X4_isLetterN (by omega) (hy k (by omega)) hck, ob_eq, ifb2, rA_in (f := z.2.1 41) (by omega) (by omega), hx k (by omega), rA_in (f := m.2.1 8) (by omega) (by omega), hy k (by omega), stop, nI_add]
          have next : okch (tx k) = true → ∀ i, i < k + 1 → okch (tx i) = true := fun h i hi => by
            by_cases e : i = k
            · rw [e]; exact h
            · exact h4 i (by omega)
          cases ho : (decide (97 ≤ tx k) && decide (tx k ≤ 122)) with
          | true =>
            rw [if_pos (show true = true from rfl), if_pos (show true = true from rfl)]
            exact ih (k + 1) (by omega) (by omega) (by omega) (next (by unfold okch; rw [ho, Bool.or_true]))
          | false =>
            rw [if_neg (show ¬ false = true by decide), if_neg (show ¬ false = true by decide)]
            by_cases qd : tx k = 46
            · rw [ifeq_t qd, ifeq_t qd]
              exact ih (k + 1) (by omega) (by omega) (by omega) (next (by unfold okch; rw [qd]; rfl))
            · rw [ifeq_f qd (by omega) (by omega), ifeq_f qd (by omega) (by omega)]
              exact Or.inl ⟨k, h2, rfl, rfl⟩
  exact key 1000 0 (by omega) (by omega) (by omega) (fun i h => by omega)
/-- the letters that a text has for a row -/
def rowL (tx : Nat → Nat) (tl k : Nat) : Nat := if k < tl ∧ 97 ≤ tx k ∧ tx k ≤ 122 then tx k - 96 else 0
theorem rowL_le (tx : Nat → Nat) (tl k : Nat) : rowL tx tl k ≤ 26 := by unfold rowL; split <;> omega
theorem X1_letterInRow {z : zV} {tl : Nat} {tx : Nat → Nat} (h60 : tl ≤ 60) (hc : ∀ i, i < tl → tx i < 65536) (ht : z.1 40 1 = nI tl) (hx : ∀ i, i < tl → z.2.1 41 i = nI (tx i)) {k : Nat} (hk : k < 7) : f_X1_letterInRow z (nI k) = some (nI (ec (rowL tx tl k))) := by
  rw [f_X1_letterInRow, ht]
  by_cases q : k < tl
  · have hck := hc k q
    rw [ifle_f q (by omega), rA_in (by omega) (by omega), hx k q, X3_isLetterN z hck, ob_eq, ifb2, rA_in (by omega) (by omega), hx k q]
    unfold rowL
    by_cases q1 : 97 ≤ tx k ∧ tx k ≤ 122
    · rw [if_pos (show (decide (97 ≤ tx k) && decide (tx k ≤ 122)) = true by rw [decide_eq_true q1.1, decide_eq_true q1.2]; rfl), if_pos ⟨q, q1⟩, ec_pos (by omega), show 96 + (tx k - 96) = tx k by omega]
    · rw [if_neg (show ¬ (decide (97 ≤ tx k) && decide (tx k ≤ 122)) = true from fun h => q1 (by simpa using h)), if_neg (fun h => q1 h.2)]
      rfl
  · unfold rowL
    rw [ifle_t (by omega) (by omega), if_neg (fun h => q h.1)]
    rfl
def gR (S : aS) (tx : Nat → Nat) (tl r : Nat) : Nat → Nat → Nat
  | 0 => S.1
  | k + 1 => upN (gR S tx tl r k) (7 * r + k) (rowL tx tl k)
theorem gR_le {S : aS} (I : Iv S) {tx : Nat → Nat} {tl r : Nat} : ∀ k c, c < 49 → gR S tx tl r k c ≤ 26
  | 0, c, h => I.1 c h
  | k + 1, c, h => by
    show upN _ _ _ c ≤ 26
    unfold upN
    split
    · exact rowL_le _ _ _
    · exact gR_le I k c h
def wL (S : aS) (g : Nat → Nat) : aS := (g, S.2)
theorem RC0_wL {z : zV} {S : aS} {c l : Nat} (R : RC0 z S) : RC0 (sA z 1 c (nI (ec l))) (wL S (upN S.1 c l)) := by
  obtain ⟨r1, r2, r3, r4, r5, r6⟩ := R
  refine ⟨fun k h => ?_, fun k h1 h2 => by rw [sA_ne (by omega)]; exact r2 k h1 h2, fun k h1 h2 => by rw [sA_ne (by omega)]; exact r3 k h1 h2, fun i h => by rw [sA_ne (by omega)]; exact r4 i h, fun i j h h2 => by rw [sA_ne (by omega)]; exact r5 i j h h2, r6⟩
  rw [sA_at]
  show _ = nI (ec (upN S.1 c l k))
  by_cases e : k = c
  · subst e; rw [upd_at, upN_at]
  · rw [upd_ne e, upN_ne e]; exact r1 k h
theorem RF_wL {f : Nat → Int32} {S : aS} {c l : Nat} (h : c < 49) (R : RF f S) : RF (upd f c (eM l)) (wL S (upN S.1 c l)) := by
  obtain ⟨r1, r2, r3, r4, r5, r6, r7, r8, r9, r10, r11⟩ := R
  refine ⟨fun k h => ?_, fun k h3 h4 => by rw [upd_ne (by omega)]; exact r2 k h3 h4, fun k h1 h2 => by rw [upd_ne (by omega)]; exact r3 k h1 h2, fun i h => by rw [upd_ne (by omega)]; exact r4 i h, fun i j h h2 => by rw [upd_ne (by omega)]; exact r5 i j h h2, by rw [upd_ne (by omega)]; exact r6, by rw [upd_ne (by omega)]; exact r7, by rw [upd_ne (by omega)]; exact r8, by rw [upd_ne (by omega)]; exact r9, by rw [upd_ne (by omega)]; exact r10, by rw [upd_ne (by omega)]; exact r11⟩
  show _ = eM (upN S.1 c l k)
  by_cases e : k = c
  · subst e; rw [upd_at, upN_at]
  · rw [upd_ne e, upN_ne e]; exact r1 k h
theorem Iv_wL {S : aS} {g : Nat → Nat} (I : Iv S) (h : ∀ c, c < 49 → g c ≤ 26) : Iv (wL S g) := ⟨h, I.2⟩
theorem frC_sA {z : zV} {q j : Nat} {v : Int32} (h1 : 0 < q) (h2 : q < 6) : frC 0 z (sA z q j v) := ⟨fun q' h => sA_ne (by omega), fun _ _ _ => rfl, rfl⟩
theorem frC_tr {a : Nat} {x y z : zV} (h1 : frC a x y) (h2 : frC a y z) : frC a x z := ⟨fun q h => (h2.1 q h).trans (h1.1 q h), fun q k h => (h2.2.1 q k h).trans (h1.2.1 q k h), h2.2.2.trans h1.2.2⟩
theorem frC_rf {a : Nat} (x : zV) : frC a x x := ⟨fun _ _ => rfl, fun _ _ _ => rfl, rfl⟩
theorem X3_setRow32 {z1 : zV} {S : aS} {tl r : Nat} {tx : Nat → Nat} (hr : r < 7) (I : Iv S) (h60 : tl ≤ 60) (hc : ∀ i, i < tl → tx i < 65536) (ht : z1.1 40 1 = nI tl) (hx : ∀ i, i < tl → z1.2.1 41 i = nI (tx i)) : ∀ (f k : Nat) (y : zV), k ≤ 7 → 7 - k < f → RC0 y (wL S (gR S tx tl r k)) → frC 0 z1 y → ∃ z2, l_X3_setRow_32 f y (nI r) (nI k) = some (nI (wl (gR S tx tl r 7)).length, z2) ∧ RC0 z2 (fg (wL S (gR S tx tl r 7))) ∧ RW z2 (wl (gR S tx tl r 7)) ∧ frS z1 z2 := by
  intro f
  induction f with
  | zero => intro k y h1 h2; omega
  | succ f ih =>
    intro k y h1 h2 R F
    by_cases q : k = 7
    · subst q
      obtain ⟨z2, e2, R2, F2⟩ := X0_forgetGuesses R
      obtain ⟨z3, e3, W3, F3⟩ := X2_find (g := gR S tx tl r 7) (fun c h => gR_le I 7 c h) (z := z2) R2.1
      rw [l_X3_setRow_32, ifle_t (by omega) (by omega), e2, ob_eq, e3, ob_eq, W3.1]
      refine ⟨z3, rfl, ?_, W3, frS_tr (frC_S (frC_tr F F2)) (frW_S F3)⟩
      unfold RC0 at *
      rw [F3.1 1 (by omega) (by omega) (by omega), F3.1 2 (by omega) (by omega) (by omega), F3.1 3 (by omega) (by omega) (by omega), F3.1 4 (by omega) (by omega) (by omega), F3.1 5 (by omega) (by omega) (by omega), F3.2.1 0 5 (by omega), F3.2.1 0 6 (by omega), F3.2.1 0 7 (by omega), F3.2.1 0 8 (by omega), F3.2.1 0 9 (by omega), F3.2.1 0 10 (by omega)]
      exact R2
    · rw [l_X3_setRow_32, ifle_f (by omega) (by omega), X1_letterInRow (tx := tx) h60 hc (by rw [F.2.1 40 1 (by omega)]; exact ht) (fun i h => by rw [F.1 41 (by omega)]; exact hx i h) (show k < 7 by omega), ob_eq, pk_mul, nI_add, wS_in (by omega) (by omega), nI_add, show r * 7 + k = 7 * r + k by omega]
      exact ih (k + 1) _ (by omega) (by omega) (RC0_wL R) (frC_tr F (frC_sA (by omega) (by omega)))
theorem X4_setRow36 {m1 : zV} {S : aS} {tl r : Nat} {tx : Nat → Nat} (hr : r < 7) (I : Iv S) (h60 : tl ≤ 60) (hc : ∀ i, i < tl → tx i < 65536) (ht : m1.1 0 11 = nI tl) (hx : ∀ i, i < tl → m1.2.1 8 i = nI (tx i)) (hg : ∀ i, i < tl → i < 7 → okch (tx i) = true) : ∀ (f k : Nat) (y : zV), k ≤ 7 → 7 - k < f → RM0 y (wL S (gR S tx tl r k)) → (∀ q, q ≠ 1 → y.2.1 q = m1.2.1 q) → y.1 = m1.1 → ∃ m2, l_X4_setRow_36 f y (nI r) (nI k) = bd2 (f_X4_acted m2 (nI (wl (gR S tx tl r 7)).length)) (fun v z => some (v, z)) ∧ RM0 m2 (fg (wL S (gR S tx tl r 7))) ∧ (∀ q, q ≠ 1 → q ≠ 5 → q ≠ 6 → q ≠ 7 → m2.2.1 q = m1.2.1 q) ∧ (∀ k, k ≠ 9 → m2.1 0 k = m1.1 0 k) := by
  intro f
  induction f with
  | zero => intro k y h1 h2; omega
  | succ f ih =>
    intro k y h1 h2 R F1 F2
    by_cases q : k = 7
    · subst q
      obtain ⟨m2, e2, R2, G1, G2⟩ := X4_forgets (RM0_RF.mp R)
      obtain ⟨m3, e3, W3, F3⟩ := X4_findsWords (g := gR S tx tl r 7) (fun c h => gR_le I 7 c h) (z := m2) R2.1
      rw [l_X4_setRow_36, ifle_t (by omega) (by omega), e2, ob_eq, e3, ob_eq, W3.1]
      exact ⟨m3, rfl, RM_frV (RM0_RF.mpr R2) F3, fun q h h5 h6 h7 => by rw [F3.1 q h5 h6 h7, G1 q h, F1 q h], fun k h => by rw [F3.2 0 k h, G2, F2]⟩
    · have step : ∀ l, l = rowL tx tl k → ∃ m2, l_X4_setRow_36 f (sA y 1 (7 * r + k) (eM l)) (nI r) (nI (k + 1)) = bd2 (f_X4_acted m2 (nI (wl (gR S tx tl r 7)).length)) (fun v z => some (v, z)) ∧ RM0 m2 (fg (wL S (gR S tx tl r 7))) ∧ (∀ q, q ≠ 1 → q ≠ 5 → q ≠ 6 → q ≠ 7 → m2.2.1 q = m1.2.1 q) ∧ (∀ k, k ≠ 9 → m2.1 0 k = m1.1 0 k) := fun l hl => by
        subst hl
        refine ih (k + 1) _ (by omega) (by omega) ?_ (fun q h => by rw [sA_ne h]; exact F1 q h) F2
        rw [RM0_RF, sA_at]
        exact RF_wL (by omega) (RM0_RF.mp R)
      rw [l_X4_setRow_36, ifle_f (by omega) (by omega), F2, ht, pk_mul, nI_add, nI_add, Nat.zero_add, nI_add]
      by_cases q1 : k < tl
      · have hck := hc k q1
        have hgk := hg k q1 (by omega)
        rw [ifle_f q1 (by omega), F1 8 (by omega), rA_in (by omega) (by omega), hx k q1]
        by_cases qd : tx k = 46
        · rw [ifeq_t qd, wS_in (by omega) (by omega)]
          exact step 0 (by unfold rowL; rw [if_neg (by omega)])
        · have hb : 97 ≤ tx k ∧ tx k ≤ 122 := by
            unfold okch at hgk
            simpa [qd] using hgk
          rw [ifeq_f qd (by omega) (by omega), rA_in (by omega) (by omega), hx k q1, pk_sub hb.1, wS_in (by omega) (by omega)]
          have := step (tx k - 96) (by unfold rowL; rw [if_pos ⟨q1, hb⟩])
          rw [eM_pos (by omega), show tx k - 96 - 1 = tx k - 97 by omega] at this
          exact this
      · rw [ifle_t (by omega) (by omega), wS_in (by omega) (by omega)]
        exact step 0 (by unfold rowL; rw [if_neg (fun h => q1 h.1)])
theorem A_setRow {z m : zV} (J : JJ z m) (a : Int32) : ActR z m (f_X3_setRow z a) (f_X4_setRow m a) := by
  have J' := J
  obtain ⟨S, hs, sn, hn, tk, tl, tx, V, C, M⟩ := J
  have V' := V
  have C' := C
  have M' := M
  obtain ⟨v1, v2, v3, v4, v5, v6, v7⟩ := V
  obtain ⟨c1, c2, c3, c4, c5, c6, c7, c8, c9⟩ := C
  obtain ⟨m1, m2, m3, m4, m5, m6, m7⟩ := M
  rw [f_X3_setRow, f_X4_setRow, X3_isInGrid, ob_eq, ifb2, X4_inL m a (by omega) (by omega), ob_eq, ifb2]
  by_cases ha : inR a 0 6 = true
  · rw [if_pos ha, if_pos (show inR a ((0 : Nat) : Int) ((6 : Nat) : Int) = true from ha)]
    obtain ⟨r, h1, h2, rfl⟩ := inR_t (lo := 0) (hi := 6) (by omega) ha
    rcases T_rowFault v6 v7 c8 c9 m6 m7 with ⟨p, hp, e1, e2⟩ | ⟨e1, e2, hg⟩
    · rw [e1, ob_eq, iflt_f (by omega) (by omega), e2, ob_eq, if_neg (m5_nI (by omega))]
      exact Act_same J'
    · obtain ⟨z1, e3, C1⟩ := X3_remember V' C'
      rw [e1, ob_eq, if_pos (by decide), e2, ob_eq, if_pos rfl, e3, ob_eq, X4_remember, ob_eq]
      obtain ⟨z2, e4, R2, W2, F2⟩ := X3_setRow32 (r := r) (tx := tx) (by omega) v1 v6 v7 C1.2.2.2.2.2.2.2.1 C1.2.2.2.2.2.2.2.2 1000 0 z1 (by omega) (by omega) C1.1 (frC_rf _)
      have q8 : (sR m 2 (pt (m.2.1 2) (m.2.1 1) 0 205)).2.1 8 = m.2.1 8 := sR_ne (by omega)
      obtain ⟨mm, e5, Q2, G1, G2⟩ := X4_setRow36 (m1 := sR m 2 (pt (m.2.1 2) (m.2.1 1) 0 205)) (r := r) (tx := tx) (by omega) v1 v6 v7 m6 (fun i h => by rw [q8]; exact m7 i h) hg 1000 0 _ (by omega) (by omega) (RM0_same (m := m) (sR_ne (by omega)) m1) (fun _ _ => rfl) rfl
      obtain ⟨m', e6, J2⟩ := Act_done V' M' C1 (Iv_fg (Iv_wL v1 (fun c h => gR_le v1 7 c h))) F2 R2 W2 (m2 := mm) (fun q h h5 h6 h7 => G1 q h h5 h6 h7) (fun k h => by rw [G2 k h]; rfl) Q2 (nI (wl (gR S tx tl r 7)).length)
      rw [e4, e5, e6, bd2_eq]
      exact ⟨_, _, _, rfl, rfl, J2⟩
  · rw [if_neg ha, if_neg (show ¬ inR a ((0 : Nat) : Int) ((6 : Nat) : Int) = true from ha)]
    exact Act_same J'
