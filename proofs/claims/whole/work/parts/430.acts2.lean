/-! THE ACTS (2): setKey, guess -/
def fg (S : aS) : aS := (S.1, fun _ => 0, fun _ => 0, S.2.2.2.1, S.2.2.2.2)
theorem Iv_fg {S : aS} (I : Iv S) : Iv (fg S) := ⟨I.1, I.2.1, fun _ _ _ => Nat.zero_le _, fun _ _ _ _ _ _ _ h => absurd rfl h, fun _ _ _ => Nat.zero_le _, I.2.2.2.2.2.1, I.2.2.2.2.2.2⟩
theorem RW_frC {z z' : zV} {L : List (Nat × Nat × Nat)} (F : frC 0 z z') (W : RW z L) : RW z' L := RW_same (F.2.1 36 3 (by omega)) (F.1 37 (by omega)) (F.1 38 (by omega)) (F.1 39 (by omega)) W
theorem X0_forgetGuesses {z : zV} {S : aS} (R : RC0 z S) : ∃ z', f_X0_forgetGuesses z = some z' ∧ RC0 z' (fg S) ∧ frC 0 z z' := by
  have key : ∀ (f k : Nat) (y : zV), 1 ≤ k → k ≤ 27 → 27 - k < f → (∀ q, q ≠ 2 → q ≠ 3 → y.2.1 q = z.2.1 q) → y.1 = z.1 → y.2.2 = z.2.2 → (∀ n, 1 ≤ n → n < k → y.2.1 2 n = nI 0 ∧ y.2.1 3 n = nI 0) → ∃ z', l_X0_forgetGuesses_2 f y (nI k) = some z' ∧ RC0 z' (fg S) ∧ frC 0 z z' := by
    intro f
    induction f with
    | zero => intro k y h1 h2 h3; omega
    | succ f ih =>
      intro k y h1 h2 h3 ha hb hc hd
      by_cases q : k = 27
      · subst q
        rw [l_X0_forgetGuesses_2, iflt_t (by omega) (by omega)]
        obtain ⟨r1, r2, r3, r4, r5, r6, r7, r8, r9, r10, r11⟩ := R
        refine ⟨y, rfl, ⟨fun c h => by rw [ha 1 (by omega) (by omega)]; exact r1 c h, fun n h4 h5 => (hd n h4 (by omega)).1, fun n h4 h5 => (hd n h4 (by omega)).2, fun i h => by rw [ha 5 (by omega) (by omega)]; exact r4 i h, fun i j h h' => by rw [ha 4 (by omega) (by omega)]; exact r5 i j h h', by rw [hb]; exact r6, by rw [hb]; exact r7, by rw [hb]; exact r8, by rw [hb]; exact r9, by rw [hb]; exact r10, by rw [hb]; exact r11⟩, fun q h => ha q (by omega) (by omega), fun q k h => by rw [hb], hc⟩
      · rw [l_X0_forgetGuesses_2, iflt_f (by omega) (by omega), wS_in (by omega) (by omega), wS_in (by omega) (by omega), nI_add]
        refine ih (k + 1) _ (by omega) (by omega) (by omega) (fun q h4 h5 => ?_) hb hc (fun n h4 h5 => ?_)
        · rw [sA_ne h5, sA_ne h4]; exact ha q h4 h5
        · rw [sA_at, sA_ne (by omega), sA_at, sA_ne (by omega)]
          by_cases e : n = k
          · subst e
            rw [upd_at, upd_at]
            exact ⟨rfl, nar_b (by omega)⟩
          · rw [upd_ne e, upd_ne e]
            exact hd n h4 (by omega)
  exact key 1000 1 z (by omega) (by omega) (by omega) (fun _ _ _ => rfl) rfl rfl (fun n h1 h2 => by omega)
theorem X4_forgets {m : zV} {S : aS} (R : RF (m.2.1 1) S) : ∃ m', f_X4_forgets m = some m' ∧ RF (m'.2.1 1) (fg S) ∧ (∀ q, q ≠ 1 → m'.2.1 q = m.2.1 q) ∧ m'.1 = m.1 := by
  have key : ∀ (f k : Nat) (y : zV), k ≤ 27 → 27 - k < f → (∀ q, q ≠ 1 → y.2.1 q = m.2.1 q) → y.1 = m.1 → (∀ i, i < 51 ∨ 105 ≤ i → y.2.1 1 i = m.2.1 1 i) → (∀ n, n < k → y.2.1 1 (51 + n) = -1 ∧ y.2.1 1 (78 + n) = nI 0) → ∃ m', l_X4_forgets_2 f y (nI k) = some m' ∧ RF (m'.2.1 1) (fg S) ∧ (∀ q, q ≠ 1 → m'.2.1 q = m.2.1 q) ∧ m'.1 = m.1 := by
    intro f
    induction f with
    | zero => intro k y h1 h2; omega
    | succ f ih =>
      intro k y h1 h2 ha hb hc hd
      by_cases q : k = 27
      · subst q
        rw [l_X4_forgets_2, iflt_t (by omega) (by omega)]
        obtain ⟨r1, r2, r3, r4, r5, r6, r7, r8, r9, r10, r11⟩ := R
        refine ⟨y, rfl, ⟨fun c h => by rw [hc _ (by omega)]; exact r1 c h, fun n h4 h5 => (hd n (by omega)).1, fun n h4 h5 => (hd n (by omega)).2, fun i h => by rw [hc _ (by omega)]; exact r4 i h, fun i j h h' => by rw [hc _ (by omega)]; exact r5 i j h h', by rw [hc _ (by omega)]; exact r6, by rw [hc _ (by omega)]; exact r7, by rw [hc _ (by omega)]; exact r8, by rw [hc _ (by omega)]; exact r9, by rw [hc _ (by omega)]; exact r10, by rw [hc _ (by omega)]; exact r11⟩, ha, hb⟩
      · rw [l_X4_forgets_2, iflt_f (by omega) (by omega), nI_add, wS_in (by omega) (by omega), nI_add, wS_in (by omega) (by omega), nI_add]
        refine ih (k + 1) _ (by omega) (by omega) (fun q h4 => ?_) hb (fun i h4 => ?_) (fun n h4 => ?_)
        · rw [sA_ne h4, sA_ne h4]; exact ha q h4
        · rw [sA_at, upd_ne (by omega), sA_at, upd_ne (by omega)]; exact hc i h4
        · rw [sA_at, sA_at, upd_ne (by omega)]
          by_cases e : n = k
          · subst e
            rw [upd_at, upd_at]
            exact ⟨rfl, rfl⟩
          · rw [upd_ne (by omega), upd_ne (by omega), upd_ne (by omega)]
            exact hd n (by omega)
  exact key 1000 0 m (by omega) (by omega) (fun _ _ => rfl) rfl (fun _ _ => rfl) (fun n h => by omega)
theorem par1 : ∀ v, v < 26 → (nI v - nI v / nI 2 * nI 2 = nI 1 ↔ v % 2 = 1) := by decide +kernel
theorem par0 : ∀ v, v < 26 → (nI v - nI v / nI 2 * nI 2 = nI 0 ↔ v % 2 = 0) := by decide +kernel
def wKy (S : aS) (v s : Nat) : aS := (S.1, S.2.1, S.2.2.1, upN (upN S.2.2.2.1 0 v) 1 s, S.2.2.2.2)
theorem Iv_wKy {S : aS} {v s : Nat} (h : okK v s) (I : Iv S) : Iv (wKy S v s) := ⟨I.1, h, I.2.2⟩
theorem A_setKeyJ {z m : zV} (J : JJ z m) {v s : Nat} (h : okK v s) : ActR z m (j_X3_setKey_45 z (nI v) (nI s)) (j_X4_setKey_64 m (nI v) (nI s)) := by
  obtain ⟨S, hs, sn, hn, tk, tl, tx, V, C, M⟩ := J
  obtain ⟨z1, e1, C1⟩ := X3_remember V C
  have I2 := Iv_wKy h V.1
  have R1 : RC0 (sI (sI z1 0 6 (nI v)) 0 7 (nI s)) (wKy S v s) := by
    obtain ⟨r1, r2, r3, r4, r5, r6, r7, r8, r9, r10, r11⟩ := C1.1
    exact ⟨r1, r2, r3, r4, r5, r6, rfl, rfl, r9, r10, r11⟩
  obtain ⟨z2, e2, R2, F2⟩ := X0_forgetGuesses R1
  rw [j_X3_setKey_45, j_X4_setKey_64, e1, ob_eq, pS_eq, pS_eq, e2, ob_eq, show nI 97 = nI (96 + 1) from rfl, X0_numberOf R2 (Iv_fg I2) (by omega) (by omega), ob_eq, X4_remember, ob_eq, wS_in (by omega) (by omega), wS_in (by omega) (by omega)]
  generalize hm1 : sA (sA (sR m 2 (pt (m.2.1 2) (m.2.1 1) 0 205)) 1 49 (nI v)) 1 50 (nI s) = m1
  have Q1 : RF (m1.2.1 1) (wKy S v s) := by
    subst hm1
    rw [sA_at, sA_at, sR_ne (by omega)]
    obtain ⟨r1, r2, r3, r4, r5, r6, r7, r8, r9, r10, r11⟩ := RM0_RF.mp M.1
    exact ⟨fun c h => by rw [upd_ne (by omega), upd_ne (by omega)]; exact r1 c h, fun n h1 h2 => by rw [upd_ne (by omega), upd_ne (by omega)]; exact r2 n h1 h2, fun n h1 h2 => by rw [upd_ne (by omega), upd_ne (by omega)]; exact r3 n h1 h2, fun i h => by rw [upd_ne (by omega), upd_ne (by omega)]; exact r4 i h, fun i j h h2 => by rw [upd_ne (by omega), upd_ne (by omega)]; exact r5 i j h h2, r6, rfl, rfl, r9, r10, r11⟩
  obtain ⟨m2, e3, Q2, F3, F4⟩ := X4_forgets Q1
  have W2 : RW z2 (wl (fg (wKy S v s)).1) := RW_frC F2 (RW_sI (RW_sI C1.2.1))
  obtain ⟨m', e4, J'⟩ := Act_done V M C1 (Iv_fg I2) (frS_tr frS_sI (frS_tr frS_sI (frC_S F2))) R2 W2 (m2 := m2) (fun q h _ _ _ => by rw [F3 q h, ← hm1, sA_ne h, sA_ne h]) (fun k _ => by rw [F4, ← hm1]; rfl) (RM0_RF.mpr Q2) (nI (num (fg (wKy S v s)).2.2.2.1 1))
  rw [e3, ob_eq, show nI 0 = nI (1 - 1) from rfl, X4_numberOf (RM0_RF.mpr Q2) (Iv_fg I2) (by omega) (by omega), ob_eq, e4, bd2_eq]
  exact ⟨_, _, _, rfl, rfl, J'⟩
theorem A_setKey {z m : zV} (J : JJ z m) (a b : Int32) : ActR z m (f_X3_setKey z a b) (f_X4_setKey m a b) := by
  have J' := J
  obtain ⟨S, hs, sn, hn, tk, tl, tx, V, C, M⟩ := J
  have hk := V.1.2.1
  have hk' := hk
  obtain ⟨k1, k2, k3, k4⟩ := hk
  rw [f_X3_setKey, f_X4_setKey, X4_inL m a (by omega) (by omega), ob_eq, ifb2, f_X3_isFactor, rng_lt a (by omega) (by omega), show ((26 : Nat) : Int) - 1 = ((25 : Nat) : Int) from rfl]
  by_cases ha : inR a ((1 : Nat) : Int) ((25 : Nat) : Int) = true
  · rw [if_pos ha, if_pos ha]
    obtain ⟨v, h1, h2, rfl⟩ := inR_t (by omega) ha
    by_cases hp : v % 2 = 1
    · rw [if_pos ((par1 v (by omega)).mpr hp), if_neg (show ¬ (nI v - nI v / nI 2 * nI 2 = nI 0) from fun q => by have := (par0 v (by omega)).mp q; omega)]
      by_cases h13 : v = 13
      · rw [ifeq_t h13, ifeq_t h13, rB0, ob_eq, if_pos rfl]
        exact Act_same J'
      · rw [ifeq_f h13 (by omega) (by omega), ifeq_f h13 (by omega) (by omega), rB1, ob_eq, ifeq_f (show (1 : Nat) ≠ 0 by omega) (by omega) (by omega), X4_inL m b (by omega) (by omega), ob_eq, ifb2]
        by_cases hb : inR b ((0 : Nat) : Int) ((25 : Nat) : Int) = true
        · rw [if_pos hb]
          obtain ⟨s, h3, h4, rfl⟩ := inR_t (by omega) hb
          have JK := A_setKeyJ J' (v := v) (s := s) ⟨by omega, hp, h13, by omega⟩
          rw [iflt_f h3 (by omega), iflt_t (by omega) (by omega), C.1.2.2.2.2.2.2.1, C.1.2.2.2.2.2.2.2.1, rA_in (by omega) (by omega), rA_in (by omega) (by omega), M.1.2.2.2.2.2.2.1, M.1.2.2.2.2.2.2.2.1]
          by_cases q1 : S.2.2.2.1 0 = v
          · rw [ifeq_t q1, ifeq_t q1]
            by_cases q2 : S.2.2.2.1 1 = s
            · rw [ifeq_t q2, ifeq_t q2]
              exact Act_same J'
            · rw [ifeq_f q2 (by omega) (by omega), ifeq_f q2 (by omega) (by omega)]
              exact JK
          · rw [ifeq_f q1 (by omega) (by omega), ifeq_f q1 (by omega) (by omega)]
            exact JK
        · rw [if_neg hb]
          unfold inR at hb
          rw [decide_eq_true_eq] at hb
          by_cases q : b < nI 0
          · rw [if_pos q]
            exact Act_same J'
          · rw [if_neg q]
            rw [lt_toInt, nI_toI (by omega)] at q
            rw [if_neg (by rw [lt_toInt, nI_toI (by omega)]; omega)]
            exact Act_same J'
    · rw [if_neg (fun q => hp ((par1 v (by omega)).mp q)), if_pos ((par0 v (by omega)).mpr (by omega)), rB0, ob_eq, if_pos rfl]
      exact Act_same J'
  · rw [if_neg ha, if_neg ha, rB0, ob_eq, if_pos rfl]
    exact Act_same J'
/-- a guess set -/
def sG (S : aS) (n l : Nat) : aS := (S.1, upN S.2.1 n l, S.2.2.1, S.2.2.2.1, S.2.2.2.2)
theorem Iv_sG {S : aS} {n l : Nat} (I : Iv S) (h1 : 1 ≤ n) (h2 : n ≤ 26) (hl : l ≤ 26) (ho : l ≠ 0 → ∀ k, 1 ≤ k → k ≤ 26 → S.2.1 k = l → k = n) : Iv (sG S n l) := by
  obtain ⟨i1, i2, i3, i4, i5⟩ := I
  refine ⟨i1, i2, fun k h3 h4 => ?_, fun a b h3 h4 h5 h6 e e0 => ?_, i5⟩
  · show upN S.2.1 n l k ≤ 26
    unfold upN
    split
    · exact hl
    · exact i3 k h3 h4
  · have e' : upN S.2.1 n l a = upN S.2.1 n l b := e
    have e0' : upN S.2.1 n l a ≠ 0 := e0
    by_cases qa : a = n
    · by_cases qb : b = n
      · omega
      · subst qa
        rw [upN_at, upN_ne qb] at e'
        rw [upN_at] at e0'
        exact absurd (ho e0' b h5 h6 e'.symm) qb
    · by_cases qb : b = n
      · subst qb
        rw [upN_at, upN_ne qa] at e'
        rw [upN_ne qa, e'] at e0'
        exact absurd (ho e0' a h3 h4 e') qa
      · rw [upN_ne qa, upN_ne qb] at e'
        rw [upN_ne qa] at e0'
        exact i4 a b h3 h4 h5 h6 e' e0'
theorem RC0_sG {z : zV} {S : aS} {n l : Nat} (R : RC0 z S) : RC0 (sA z 2 n (nI (ec l))) (sG S n l) := by
  obtain ⟨r1, r2, r3, r4, r5, r6⟩ := R
  refine ⟨fun c h => by rw [sA_ne (by omega)]; exact r1 c h, fun k h1 h2 => ?_, fun k h1 h2 => by rw [sA_ne (by omega)]; exact r3 k h1 h2, fun i h => by rw [sA_ne (by omega)]; exact r4 i h, fun i j h h2 => by rw [sA_ne (by omega)]; exact r5 i j h h2, r6⟩
  rw [sA_at]
  show _ = nI (ec (upN S.2.1 n l k))
  by_cases e : k = n
  · subst e; rw [upd_at, upN_at]
  · rw [upd_ne e, upN_ne e]; exact r2 k h1 h2
theorem RF_sG {f : Nat → Int32} {S : aS} {n l : Nat} (h1 : 1 ≤ n) (h2 : n ≤ 26) (R : RF f S) : RF (upd f (51 + n) (eM l)) (sG S n l) := by
  obtain ⟨r1, r2, r3, r4, r5, r6, r7, r8, r9, r10, r11⟩ := R
  refine ⟨fun c h => by rw [upd_ne (by omega)]; exact r1 c h, fun k h3 h4 => ?_, fun k h1 h2 => by rw [upd_ne (by omega)]; exact r3 k h1 h2, fun i h => by rw [upd_ne (by omega)]; exact r4 i h, fun i j h h2 => by rw [upd_ne (by omega)]; exact r5 i j h h2, by rw [upd_ne (by omega)]; exact r6, by rw [upd_ne (by omega)]; exact r7, by rw [upd_ne (by omega)]; exact r8, by rw [upd_ne (by omega)]; exact r9, by rw [upd_ne (by omega)]; exact r10, by rw [upd_ne (by omega)]; exact r11⟩
  show _ = eM (upN S.2.1 n l k)
  by_cases e : k = n
  · subst e; rw [upd_at, upN_at]
  · rw [upd_ne (by omega), upN_ne e]; exact r2 k h3 h4
theorem frS_sA {z : zV} {q j : Nat} {v : Int32} (h : q < 6) : frS z (sA z q j v) := ⟨fun q' h1 _ _ _ => sA_ne (by omega), fun _ _ _ _ => rfl, rfl⟩
theorem RW_sA {z : zV} {q j : Nat} {v : Int32} {L : List (Nat × Nat × Nat)} (h : q < 36) (W : RW z L) : RW (sA z q j v) L := RW_same (z := z) rfl (sA_ne (by omega)) (sA_ne (by omega)) (sA_ne (by omega)) W
theorem otherG_f {S : aS} {l n : Nat} (h : otherG S l n = false) : ∀ k, 1 ≤ k → k ≤ 26 → S.2.1 k = l → k = n := by
  intro k h1 h2 e
  refine Classical.byContradiction (fun q => ?_)
  have : otherG S l n = true := anyB_t (k := k - 1) (by omega) (by
    rw [show k - 1 + 1 = k by omega]
    simp [e, q])
  rw [h] at this
  exact absurd this (by decide)
theorem A_guessK {z m : zV} (J : JJ z m) {n l : Nat} (h1 : 1 ≤ n) (h2 : n ≤ 26) (hl : l ≤ 26) : ActR z m (j_X3_guess_36 z (nI n) (nI (ec l))) (j_X4_guess_46 m (nI n) (eM l)) := by
  have J' := J
  obtain ⟨S, hs, sn, hn, tk, tl, tx, V, C, M⟩ := J
  have I := V.1
  have hfx := I.2.2.2.2.1 n h1 h2
  have hg := I.2.2.1 n h1 h2
  -- the last part of both
  have fin : (l ≠ 0 → ∀ k, 1 ≤ k → k ≤ 26 → S.2.1 k = l → k = n) → ActR z m (rA (z.2.1 2) 27 (nI n) (fun v_69 => (if v_69 = nI (ec l) then (some ((-5), z)) else (Option.bind (f_X3_remember z) (fun z_78 => (wS z_78 2 27 (nI n) (nI (ec l)) (fun z_90 => (Option.bind (f_X0_guessedCells z_90) (fun v_95 => (some (v_95, z_90))))))))))) (j_X4_guess_77 m (nI n) (eM l)) := by
    intro ho
    rw [j_X4_guess_77, rA_in (by omega) (by omega), C.1.2.1 n h1 h2, ifec hg hl, nI_add, rA_in (by omega) (by omega), M.1.2.1 n h1 h2, ifem hg hl]
    by_cases q : S.2.1 n = l
    · rw [if_pos q, if_pos q]
      exact Act_same J'
    · obtain ⟨z1, e1, C1⟩ := X3_remember V C
      have I2 := Iv_sG I h1 h2 hl ho
      have R2 := RC0_sG (n := n) (l := l) C1.1
      have Q2 : RM0 (sA (sR m 2 (pt (m.2.1 2) (m.2.1 1) 0 205)) 1 (51 + n) (eM l)) (sG S n l) := by
        rw [RM0_RF, sA_at, sR_ne (by omega)]
        exact RF_sG h1 h2 (RM0_RF.mp M.1)
      obtain ⟨m', e2, J2⟩ := Act_done V M C1 I2 (frS_sA (by omega)) R2 (RW_sA (by omega) C1.2.1) (fun q h _ _ _ => sA_ne h) (fun _ _ => rfl) Q2 (nI (gcs (sG S n l)))
      rw [if_neg q, if_neg q, e1, ob_eq, wS_in (by omega) (by omega), X0_guessedCells R2 I2, ob_eq, X4_remember, ob_eq, wS_in (by omega) (by omega), X4_guessedCells Q2 I2, ob_eq, e2, bd2_eq]
      exact ⟨_, _, _, rfl, rfl, J2⟩
  rw [j_X3_guess_36, j_X4_guess_46, rA_in (f := z.2.1 3) (by omega) (by omega), C.1.2.2.1 n h1 h2, nI_add, rA_in (f := m.2.1 1) (by omega) (by omega), M.1.2.2.1 n h1 h2]
  by_cases q : S.2.2.1 n = 0
  · rw [ifeq_t q, ifeq_f (show S.2.2.1 n ≠ 1 by omega) (by omega) (by omega)]
    by_cases q0 : l = 0
    · subst q0
      have e0 : nI (ec 0) = nI 0 := rfl
      rw [show f_X3_isGuessOfAnother z (nI (ec 0)) (nI n) = some (nI 0) from X3_isGuessOfAnother0 C.1 I, ob_eq, if_pos rfl, if_pos eM_0]
      exact fin (fun h => absurd rfl h)
    · rw [if_neg (eM_ne q0 hl), X3_isGuessOfAnother C.1 I q0 hl h2, ob_eq, ifb2, X4_isGuessOfAnother M.1 I hl h2, ob_eq, ifb2]
      cases ho : otherG S l n with
      | true =>
        rw [if_pos rfl, if_pos rfl]
        exact Act_same J'
      | false =>
        rw [if_neg (by decide), if_neg (by decide)]
        exact fin (fun _ => otherG_f ho)
  · rw [ifeq_f q (by omega) (by omega), ifeq_t (show S.2.2.1 n = 1 by omega)]
    exact Act_same J'
theorem A_guess {z m : zV} (J : JJ z m) (a b : Int32) : ActR z m (f_X3_guess z a b) (f_X4_guess m a b) := by
  rw [f_X3_guess, f_X4_guess, X3_isNumber, ob_eq, X4_isNumber, ob_eq, ifb2, ifb2]
  by_cases ha : inR a 1 26 = true
  · rw [if_pos ha, if_pos ha]
    obtain ⟨n, h1, h2, rfl⟩ := inR_t (lo := 1) (hi := 26) (by omega) ha
    by_cases q : b = nI 46
    · rw [if_pos q, if_pos q, j_X3_guess_25, j_X4_guess_32, if_pos q, if_pos q]
      exact A_guessK J (l := 0) h1 h2 (by omega)
    · rw [if_neg q, if_neg q, X3_isLetter, ob_eq, X4_inL m b (by omega) (by omega), ob_eq, ifb2, ifb2]
      by_cases hb : inR b 97 122 = true
      · rw [if_pos hb, if_pos (show inR b ((97 : Nat) : Int) ((122 : Nat) : Int) = true from hb), j_X3_guess_25, j_X4_guess_32, if_neg q, if_neg q]
        obtain ⟨l, h3, h4, rfl⟩ := inR_t (lo := 97) (hi := 122) (by omega) hb
        have := A_guessK J (l := l - 96) h1 h2 (by omega)
        rw [ec_pos (by omega), eM_pos (by omega), show 96 + (l - 96) = l by omega, show l - 96 - 1 = l - 97 by omega] at this
        rw [pk_sub (by omega)]
        exact this
      · rw [if_neg hb, if_neg (show ¬ inR b ((97 : Nat) : Int) ((122 : Nat) : Int) = true from hb)]
        exact Act_same J
  · rw [if_neg ha, if_neg ha]
    exact Act_same J
