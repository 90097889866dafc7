/-! WHAT IS TOLD: the methods that change nothing, both sides answer alike -/
theorem RM_frV {m m' : zV} {S : aS} (R : RM0 m S) (F : frV m m') : RM0 m' S := by
  unfold RM0 at *
  rw [F.1 1 (by omega) (by omega) (by omega)]
  exact R
theorem X4_finds {m : zV} {S : aS} (R : RM0 m S) (I : Iv S) : ∃ m', f_X4_findsWords m = some m' ∧ RV m' (wl S.1) ∧ frV m m' ∧ RM0 m' S := by
  obtain ⟨m', e, W, F⟩ := X4_findsWords I.1 R.1
  exact ⟨m', e, W, F, RM_frV R F⟩
theorem X4_isWord {m : zV} {S : aS} (R : RM0 m S) (I : Iv S) (a : Int32) : ∃ m', f_X4_isWord m a = some (b2 (inR a 0 ((nw S : Int) - 1)), m') ∧ RV m' (wl S.1) ∧ frV m m' ∧ RM0 m' S := by
  obtain ⟨m', e, W, F, R'⟩ := X4_finds R I
  have h28 := nw_le S
  refine ⟨m', ?_, W, F, R'⟩
  rw [f_X4_isWord, e, ob_eq, RV_n W, X4_inN _ a (by omega), ob_eq, rB_b2]
/-! the word with a cell -/
def wac (S : aS) (c p : Nat) : Nat := fst1 (fun w => (wd S w).2.2 == p && anyB (fun k => cl S w k == c) (wn S w)) (nw S)
theorem cl_lt {S : aS} {w k : Nat} (h : w < nw S) (hk : k < wn S w) : cl S w k < 49 := (cl_in h hk).1
theorem X2_hasCell {z : zV} {S : aS} (W : RW z (wl S.1)) {w c : Nat} (h : w < nw S) (hc : c < 49) : f_X2_hasCell z (nI w) (nI c) = some (b2 (anyB (fun k => cl S w k == c) (wn S w))) := by
  have h28 := nw_le S
  have hw := wn_in h
  rw [f_X2_hasCell, fst1_any]
  refine lp_fst (L := fun f k => l_X2_hasCell_2 z f (nI w) (nI c) (nI k)) (fun k => cl S w k == c) (wn S w) (fun k => some (b2 (decide (k < wn S w)))) (fun f => ?_) (fun f k hk q => ?_) (fun f k hk q => ?_) 1000 (by omega)
  · rw [l_X2_hasCell_2, rA_in (by omega) (by omega), (RW_at W h).2.1, ifle_t (by omega) (by omega), rB0]; simp [b2]
  · simp only [beq_iff_eq] at q
    rw [l_X2_hasCell_2, rA_in (by omega) (by omega), (RW_at W h).2.1, ifle_f (by omega) (by omega), X2_cellOf W h, ob_eq, ifeq_t q, rB1]; simp [b2, hk]
  · simp only [beq_eq_false_iff_ne] at q
    have := cl_lt h hk
    rw [l_X2_hasCell_2, rA_in (by omega) (by omega), (RW_at W h).2.1, ifle_f (by omega) (by omega), X2_cellOf W h, ob_eq, ifeq_f q (by omega) (by omega), nI_add]
theorem X2_isDown {z : zV} {S : aS} (W : RW z (wl S.1)) {w : Nat} (h : w < nw S) : f_X2_isDown z (nI w) = some (b2 ((wd S w).2.2 == 7)) := by
  have h28 := nw_le S
  have hp := (wd_PW h).2.2.1
  rw [f_X2_isDown, rA_in (by omega) (by omega), (RW_at W h).2.2]
  by_cases e : (wd S w).2.2 = 7
  · rw [ifeq_t e, rB1, e]; rfl
  · rw [ifeq_f e (by omega) (by omega), rB0]; simp [e, b2]
theorem X2_wordAt {z : zV} {S : aS} (W : RW z (wl S.1)) {c p : Nat} (hc : c < 49) (hp : p = 1 ∨ p = 7) : f_X2_wordAt z (nI c) (b2 (p == 7)) = some (on5 (decide (wac S c p < nw S)) (wac S c p)) := by
  have h28 := nw_le S
  have hdn : ∀ w, w < nw S → (b2 ((wd S w).2.2 == 7) = b2 (p == 7) ↔ (wd S w).2.2 = p) := by
    intro w hw
    have h10 : ¬ nI 1 = nI 0 := by decide
    have h01 : ¬ nI 0 = nI 1 := by decide
    rcases (wd_PW hw).2.2.1 with e | e <;> rcases hp with e2 | e2 <;> rw [e, e2] <;> simp [b2, h10, h01]
  have step : ∀ f w, w < nw S → l_X2_wordAt_2 z (f + 1) (nI c) (b2 (p == 7)) (nI w) = if ((wd S w).2.2 == p && anyB (fun k => cl S w k == c) (wn S w)) = true then some (nI w) else l_X2_wordAt_2 z f (nI c) (b2 (p == 7)) (nI (w + 1)) := by
    intro f w hw
    rw [l_X2_wordAt_2, RW_n W, ifle_f (by omega) (by omega), X2_isDown W hw, ob_eq, nI_add]
    by_cases e : (wd S w).2.2 = p
    · rw [if_pos ((hdn w hw).mpr e), X2_hasCell W hw hc, ob_eq, ifb2, e]
      by_cases q : anyB (fun k => cl S w k == c) (wn S w) = true
      · rw [if_pos q, if_pos (by simpa using q)]
      · rw [if_neg q, if_neg (by simpa using q)]
    · have e' : ((wd S w).2.2 == p) = false := by simpa using e
      rw [if_neg (fun q => e ((hdn w hw).mp q)), e', Bool.false_and, if_neg (by decide)]
  rw [f_X2_wordAt]
  refine lp_fst (L := fun f w => l_X2_wordAt_2 z f (nI c) (b2 (p == 7)) (nI w)) (fun w => (wd S w).2.2 == p && anyB (fun k => cl S w k == c) (wn S w)) (nw S) (fun w => some (on5 (decide (w < nw S)) w)) (fun f => ?_) (fun f k hk q => ?_) (fun f k hk q => ?_) 1000 (by omega)
  · rw [l_X2_wordAt_2, RW_n W, ifle_t (by omega) (by omega)]; simp [on5]
  · rw [step f k hk, if_pos q]; simp [on5, hk]
  · rw [step f k hk, if_neg (by rw [q]; decide)]
theorem X4_wordAt6 {m : zV} {S : aS} (W : RV m (wl S.1)) {c p : Nat} (hc : c < 49) (hp : p = 1 ∨ p = 7) : l_X4_wordAt_6 1000 m (nI c) (nI p) (nI 0) = some (on5 (decide (wac S c p < nw S)) (wac S c p), m) := by
  have h28 := nw_le S
  have inner : ∀ (K : zV → Int32 → Int32 → Int32 → Option (Int32 × zV)) w, w < nw S → ∀ f k, k ≤ wn S w → wn S w - k < f → (((wd S w).2.2 = p ∧ ∃ j, k ≤ j ∧ j < wn S w ∧ cl S w j = c) → l_X4_wordAt_17 K f m (nI c) (nI p) (nI w) (nI k) = some (nI w, m)) ∧ (¬ ((wd S w).2.2 = p ∧ ∃ j, k ≤ j ∧ j < wn S w ∧ cl S w j = c) → l_X4_wordAt_17 K f m (nI c) (nI p) (nI w) (nI k) = K m (nI c) (nI p) (nI (w + 1))) := by
    intro K w hw f
    have hwn := wn_in hw
    have hpw := (wd_PW hw).2.2.1
    induction f with
    | zero => intro k _ h; omega
    | succ f ih =>
      intro k hk hf
      rw [l_X4_wordAt_17, rA_in (by omega) (by omega), (RV_at W hw).2.1]
      by_cases e : k = wn S w
      · rw [ifle_t (by omega) (by omega), nI_add]
        refine ⟨?_, fun _ => rfl⟩
        rintro ⟨-, j, a, b, -⟩
        omega
      · have hkl : k < wn S w := by omega
        have hcl := cl_lt hw hkl
        obtain ⟨ih1, ih2⟩ := ih (k + 1) (by omega) (by omega)
        rw [ifle_f hkl (by omega), rA_in (by omega) (by omega), (RV_at W hw).2.2]
        by_cases e2 : (wd S w).2.2 = p
        · rw [ifeq_t e2, X4_cellOf W hw, ob_eq]
          by_cases e3 : cl S w k = c
          · rw [ifeq_t e3]
            exact ⟨fun _ => rfl, fun q => absurd ⟨e2, k, Nat.le_refl _, hkl, e3⟩ q⟩
          · rw [ifeq_f e3 (by omega) (by omega), nI_add]
            refine ⟨?_, fun q => ih2 ?_⟩
            · rintro ⟨q1, j, a, b, d⟩
              refine ih1 ⟨q1, j, ?_, b, d⟩
              by_cases ej : j = k
              · subst ej; exact absurd d e3
              · omega
            · rintro ⟨q1, j, a, b, d⟩
              exact q ⟨q1, j, by omega, b, d⟩
        · rw [ifeq_f e2 (by omega) (by omega), nI_add]
          exact ⟨fun q => absurd q.1 e2, fun q => ih2 (fun q2 => e2 q2.1)⟩
  have step : ∀ f w, w < nw S → l_X4_wordAt_6 (f + 1) m (nI c) (nI p) (nI w) = if ((wd S w).2.2 == p && anyB (fun k => cl S w k == c) (wn S w)) = true then some (nI w, m) else l_X4_wordAt_6 f m (nI c) (nI p) (nI (w + 1)) := by
    intro f w hw
    have hwn := wn_in hw
    obtain ⟨in1, in2⟩ := inner (l_X4_wordAt_6 f) w hw 1000 0 (by omega) (by omega)
    rw [l_X4_wordAt_6, RV_n W, ifle_f (by omega) (by omega)]
    by_cases q : ((wd S w).2.2 == p && anyB (fun k => cl S w k == c) (wn S w)) = true
    · rw [if_pos q]
      rw [Bool.and_eq_true, anyB_iff] at q
      obtain ⟨q1, j, a, b⟩ := q
      exact in1 ⟨by simpa using q1, j, by omega, a, by simpa using b⟩
    · rw [if_neg q]
      refine in2 ?_
      rintro ⟨q1, j, a, b, d⟩
      exact q (by rw [Bool.and_eq_true, anyB_iff]; exact ⟨by simpa using q1, j, b, by simpa using d⟩)
  refine lp_fst (L := fun f w => l_X4_wordAt_6 f m (nI c) (nI p) (nI w)) (fun w => (wd S w).2.2 == p && anyB (fun k => cl S w k == c) (wn S w)) (nw S) (fun w => some (on5 (decide (w < nw S)) w, m)) (fun f => ?_) (fun f k hk q => ?_) (fun f k hk q => ?_) 1000 (by omega)
  · rw [l_X4_wordAt_6, RV_n W, ifle_t (by omega) (by omega)]; simp [on5]
  · rw [step f k hk, if_pos q]; simp [on5, hk]
  · rw [step f k hk, if_neg (by rw [q]; decide)]
theorem X4_wordAt {m : zV} {S : aS} (R : RM0 m S) (I : Iv S) {c p : Nat} (hc : c < 49) (hp : p = 1 ∨ p = 7) : ∃ m', f_X4_wordAt m (nI c) (nI p) = some (on5 (decide (wac S c p < nw S)) (wac S c p), m') ∧ frV m m' := by
  obtain ⟨m', e, W, F, R'⟩ := X4_finds R I
  exact ⟨m', by rw [f_X4_wordAt, e, ob_eq, X4_wordAt6 W hc hp], F⟩
theorem X3_orNone (z : zV) {k : Nat} (h : k < 2147483648) : f_X3_orNone z (nI k) = some (if k = 0 then -5 else nI k) := by
  rw [f_X3_orNone]
  by_cases q : k = 0
  · rw [ifeq_t q, if_pos q]
  · rw [ifeq_f q h (by omega), if_neg q]
theorem X3_oneIf (z : zV) (b : Bool) : f_X3_oneIf z (b2 b) = some (b2 b) := by cases b <;> rfl
theorem T_cell {z m : zV} {S : aS} (R : RC0 z S) (I : Iv S) (W : RW z (wl S.1)) (Q : RM0 m S) (a b c : Int32) : ∃ r m', f_X3_cell z a b c = some r ∧ f_X4_cell m a b c = some (r, m') ∧ frV m m' := by
  rw [f_X3_cell, f_X4_cell, X3_isInGrid, ob_eq, ifb2, X4_inL m a (by omega) (by omega), ob_eq, ifb2]
  show ∃ r m', (if inR a 0 6 = true then _ else _) = some r ∧ (if inR a 0 6 = true then _ else _) = some (r, m') ∧ frV m m'
  by_cases ha : inR a 0 6 = true
  · rw [if_pos ha, if_pos ha, X3_isInGrid, ob_eq, ifb2, X4_inL m b (by omega) (by omega), ob_eq, ifb2]
    show ∃ r m', (if inR b 0 6 = true then _ else _) = some r ∧ (if inR b 0 6 = true then _ else _) = some (r, m') ∧ frV m m'
    by_cases hb : inR b 0 6 = true
    · rw [if_pos hb, if_pos hb]
      obtain ⟨i, -, hi, rfl⟩ := inR_t (lo := 0) (hi := 6) (by omega) ha
      obtain ⟨j, -, hj, rfl⟩ := inR_t (lo := 0) (hi := 6) (by omega) hb
      have hc : i * 7 + j < 49 := by omega
      rw [pk_mul, nI_add, pk_mul, nI_add, Nat.mul_comm 7 i]
      have hg := gAt_le I (i * 7 + j)
      have hn := nAt_le S (i * 7 + j)
      by_cases c0 : c = nI 0
      · rw [if_pos c0, if_pos c0, X0_numberAt R I hc, ob_eq, X3_orNone z (by omega), ob_eq, X4_numberAt Q I hc, ob_eq]
        refine ⟨_, m, rfl, ?_, frV_rf m⟩
        by_cases q : S.1 (i * 7 + j) = 0
        · rw [if_pos q, nAt_0 q, if_pos rfl]
        · have := nAt_pos q
          rw [if_neg q, if_neg (by omega)]
      · rw [if_neg c0, if_neg c0]
        by_cases c1 : c = nI 1
        · rw [if_pos c1, if_pos c1, X0_guessAt R I hc, ob_eq, X3_orNone z (by have := ec_le hg; omega), ob_eq, X4_guessAt Q I hc, ob_eq, X4_coded m hg, ob_eq]
          refine ⟨_, m, rfl, ?_, frV_rf m⟩
          by_cases q : gAt S (i * 7 + j) = 0
          · rw [if_pos q, q]; rfl
          · rw [if_neg q, if_neg (by rw [ec_pos q]; omega)]
        · rw [if_neg c1, if_neg c1]
          by_cases c2 : c = nI 2
          · obtain ⟨m', e, F⟩ := X4_wordAt Q I hc (p := 1) (Or.inl rfl)
            rw [if_pos c2, if_pos c2, e, bd2_eq]
            have := X2_wordAt W hc (p := 1) (Or.inl rfl)
            rw [show b2 (1 == 7) = nI 0 from rfl] at this
            rw [this, ob_eq]
            exact ⟨_, m', rfl, rfl, F⟩
          · rw [if_neg c2, if_neg c2]
            by_cases c3 : c = nI 3
            · obtain ⟨m', e, F⟩ := X4_wordAt Q I hc (p := 7) (Or.inr rfl)
              rw [if_pos c3, if_pos c3, e, bd2_eq]
              have := X2_wordAt W hc (p := 7) (Or.inr rfl)
              rw [show b2 (7 == 7) = nI 1 from rfl] at this
              rw [this, ob_eq]
              exact ⟨_, m', rfl, rfl, F⟩
            · rw [if_neg c3, if_neg c3]
              exact ⟨_, m, rfl, rfl, frV_rf m⟩
    · rw [if_neg hb, if_neg hb]
      exact ⟨_, m, rfl, rfl, frV_rf m⟩
  · rw [if_neg ha, if_neg ha]
    exact ⟨_, m, rfl, rfl, frV_rf m⟩
theorem T_number {z m : zV} {S : aS} (R : RC0 z S) (I : Iv S) (W : RW z (wl S.1)) (Q : RM0 m S) (a b : Int32) : ∃ r m', f_X3_number z a b = some r ∧ f_X4_number m a b = some (r, m') ∧ frV m m' := by
  rw [f_X3_number, f_X4_number, X3_isNumber, ob_eq, ifb2, X4_isNumber, ob_eq, ifb2]
  by_cases ha : inR a 1 26 = true
  · rw [if_pos ha, if_pos ha]
    obtain ⟨n, h1, h2, rfl⟩ := inR_t (lo := 1) (hi := 26) (by omega) ha
    have hg := I.2.2.1 n h1 h2
    by_cases c0 : b = nI 0
    · rw [if_pos c0, if_pos c0, X0_cellsWith R I h2, X4_cellsWith Q I h1 h2, ob_eq, ob_eq]
      exact ⟨_, m, rfl, rfl, frV_rf m⟩
    · rw [if_neg c0, if_neg c0]
      by_cases c1 : b = nI 1
      · rw [if_pos c1, if_pos c1, rA_in (by omega) (by omega), R.2.1 n h1 h2, X3_orNone z (by have := ec_le hg; omega), ob_eq, nI_add, rA_in (by omega) (by omega), Q.2.1 n h1 h2, X4_coded m hg, ob_eq]
        refine ⟨_, m, rfl, ?_, frV_rf m⟩
        by_cases q : S.2.1 n = 0
        · rw [if_pos q, q]; rfl
        · rw [if_neg q, if_neg (by rw [ec_pos q]; omega)]
      · rw [if_neg c1, if_neg c1]
        by_cases c2 : b = nI 2
        · rw [if_pos c2, if_pos c2, X0_priceOf R I h2, X4_priceOf Q I h1 h2, ob_eq, ob_eq]
          exact ⟨_, m, rfl, rfl, frV_rf m⟩
        · rw [if_neg c2, if_neg c2]
          by_cases c3 : b = nI 3
          · have hf := I.2.2.2.2.1 n h1 h2
            rw [if_pos c3, if_pos c3, rA_in (by omega) (by omega), R.2.2.1 n h1 h2, nI_add, rA_in (by omega) (by omega), Q.2.2.1 n h1 h2]
            have : S.2.2.1 n = 0 ∨ S.2.2.1 n = 1 := by omega
            rcases this with e | e <;> rw [e] <;> exact ⟨_, m, rfl, rfl, frV_rf m⟩
          · rw [if_neg c3, if_neg c3]
            by_cases c4 : b = nI 4
            · obtain ⟨m', e, W', F, R'⟩ := X4_finds Q I
              rw [if_pos c4, if_pos c4, X3_wordsWith R I W h2, ob_eq, f_X4_wordsWith, e, ob_eq, X4_wordsWith8 R' I W' h2, bd2_eq]
              exact ⟨_, m', rfl, rfl, F⟩
            · rw [if_neg c4, if_neg c4]
              exact ⟨_, m, rfl, rfl, frV_rf m⟩
  · rw [if_neg ha, if_neg ha]
    exact ⟨_, m, rfl, rfl, frV_rf m⟩
theorem T_word {z m : zV} {S : aS} (R : RC0 z S) (I : Iv S) (W : RW z (wl S.1)) (Q : RM0 m S) (a b : Int32) : ∃ r m', f_X3_word z a b = some r ∧ f_X4_word m a b = some (r, m') ∧ frV m m' := by
  obtain ⟨m', e, W', F, Q'⟩ := X4_isWord Q I a
  have h28 := nw_le S
  rw [f_X3_word, f_X4_word, X3_isWord (RW_n W) (by omega), ob_eq, ifb2, e, bd2_eq, ifb2]
  by_cases ha : inR a 0 ((nw S : Int) - 1) = true
  · rw [if_pos ha, if_pos ha]
    obtain ⟨w, hw, rfl⟩ := inR_n (by omega) ha
    have hwn := wn_in hw
    by_cases c0 : b = nI 0
    · rw [if_pos c0, if_pos c0, rA_in (by omega) (by omega), (RW_at W hw).1, rA_in (by omega) (by omega), (RV_at W' hw).1]
      exact ⟨_, m', rfl, rfl, F⟩
    · rw [if_neg c0, if_neg c0]
      by_cases c1 : b = nI 1
      · rw [if_pos c1, if_pos c1, rA_in (by omega) (by omega), (RW_at W hw).1, rA_in (by omega) (by omega), (RV_at W' hw).1]
        exact ⟨_, m', rfl, rfl, F⟩
      · rw [if_neg c1, if_neg c1]
        by_cases c2 : b = nI 2
        · rw [if_pos c2, if_pos c2, rA_in (by omega) (by omega), (RW_at W hw).2.1, rA_in (by omega) (by omega), (RV_at W' hw).2.1]
          exact ⟨_, m', rfl, rfl, F⟩
        · rw [if_neg c2, if_neg c2]
          by_cases c3 : b = nI 3
          · have hp := (wd_PW hw).2.2.1
            rw [if_pos c3, if_pos c3, X2_isDown W hw, ob_eq, X3_oneIf, ob_eq, rA_in (by omega) (by omega), (RV_at W' hw).2.2]
            rcases hp with e | e <;> rw [e] <;> exact ⟨_, m', rfl, rfl, F⟩
          · rw [if_neg c3, if_neg c3]
            by_cases c4 : b = nI 4
            · rw [if_pos c4, if_pos c4, X3_guessedCellsOf R I W hw, X4_guessedOf Q' I W' hw, ob_eq, ob_eq]
              exact ⟨_, m', rfl, rfl, F⟩
            · rw [if_neg c4, if_neg c4]
              by_cases c5 : b = nI 5
              · rw [if_pos c5, if_pos c5, X3_listedThatFit R I W hw, X4_fitting Q' I W' hw, ob_eq, ob_eq]
                exact ⟨_, m', rfl, rfl, F⟩
              · rw [if_neg c5, if_neg c5]
                by_cases c6 : b = nI 6
                · rw [if_pos c6, if_pos c6, X3_firstListedThatFits R I W hw, X4_firstFitting Q' I W' hw, ob_eq, ob_eq]
                  exact ⟨_, m', rfl, rfl, F⟩
                · rw [if_neg c6, if_neg c6]
                  exact ⟨_, m', rfl, rfl, F⟩
  · rw [if_neg ha, if_neg ha]
    exact ⟨_, m', rfl, rfl, F⟩
theorem T_fits {z m : zV} {S : aS} (R : RC0 z S) (I : Iv S) (W : RW z (wl S.1)) (Q : RM0 m S) (a b : Int32) : ∃ r m', f_X3_fits z a b = some r ∧ f_X4_fits m a b = some (r, m') ∧ frV m m' := by
  obtain ⟨m', e, W', F, Q'⟩ := X4_isWord Q I a
  have h28 := nw_le S
  have h12 := I.2.2.2.2.2.2.1
  rw [f_X3_fits, f_X4_fits, X3_isWord (RW_n W) (by omega), ob_eq, ifb2, e, bd2_eq, ifb2]
  by_cases ha : inR a 0 ((nw S : Int) - 1) = true
  · rw [if_pos ha, if_pos ha, X3_isInList R.2.2.2.2.2.1 (by omega), ob_eq, ifb2, X4_isListed Q' I, ob_eq, ifb2]
    by_cases hb : inR b 0 ((S.2.2.2.1 5 : Int) - 1) = true
    · rw [if_pos hb, if_pos hb]
      obtain ⟨w, hw, rfl⟩ := inR_n (by omega) ha
      obtain ⟨i, hi, rfl⟩ := inR_n (by omega) hb
      rw [X3_isFitting R I W hw hi, ob_eq, X3_oneIf, ob_eq, X4_isFit Q' I W' hw hi, ob_eq]
      cases fitB S w i <;> exact ⟨_, m', rfl, rfl, F⟩
    · rw [if_neg hb, if_neg hb]
      exact ⟨_, m', rfl, rfl, F⟩
  · rw [if_neg ha, if_neg ha]
    exact ⟨_, m', rfl, rfl, F⟩
theorem m5_nI {k : Nat} (h : k < 2147483648) : nI k ≠ -5 := nI_neM h (by decide)
theorem T_listed {z m : zV} {S : aS} (R : RC0 z S) (I : Iv S) (W : RW z (wl S.1)) (Q : RM0 m S) (a b : Int32) : ∃ r m', f_X3_listed z a b = some r ∧ f_X4_listed m a b = some (r, m') ∧ frV m m' := by
  obtain ⟨m', e, W', F, Q'⟩ := X4_finds Q I
  have h28 := nw_le S
  have h12 := I.2.2.2.2.2.2.1
  rw [f_X3_listed, f_X4_listed, X3_isInList R.2.2.2.2.2.1 (by omega), ob_eq, ifb2, X4_isListed Q I, ob_eq, ifb2]
  by_cases ha : inR a 0 ((S.2.2.2.1 5 : Int) - 1) = true
  · rw [if_pos ha, if_pos ha, e, ob_eq]
    obtain ⟨i, hi, rfl⟩ := inR_n (by omega) ha
    by_cases c0 : b = nI 0
    · rw [if_pos c0, if_pos c0, rA_in (by omega) (by omega), R.2.2.2.1 i hi, X4_sizeOf Q' I hi, ob_eq]
      exact ⟨_, m', rfl, rfl, F⟩
    · rw [if_neg c0, if_neg c0]
      by_cases c1 : b = nI 1
      · rw [if_pos c1, if_pos c1, X3_wordsThatFit R I W hi, X4_fitted Q' I W' hi, ob_eq, ob_eq]
        exact ⟨_, m', rfl, rfl, F⟩
      · rw [if_neg c1, if_neg c1]
        by_cases c2 : b = nI 2
        · rw [if_pos c2, if_pos c2, X3_firstWordThatFits R I W hi, X4_firstFitted Q' I W' hi, ob_eq, ob_eq]
          by_cases q : ffw S i < nw S
          · have e2 : on5 (decide (ffw S i < nw S)) (ffw S i) = nI (ffw S i) := by simp [on5, q]
            rw [e2, if_neg (m5_nI (by omega)), if_neg (m5_nI (by omega)), X3_priceOfRest R I W q, ob_eq, ob_eq, X4_worth Q' I W' q, ob_eq]
            exact ⟨_, m', rfl, rfl, F⟩
          · have e2 : on5 (decide (ffw S i < nw S)) (ffw S i) = -5 := by simp [on5, q]
            rw [e2, if_pos rfl, if_pos rfl]
            exact ⟨_, m', rfl, rfl, F⟩
        · rw [if_neg c2, if_neg c2]
          exact ⟨_, m', rfl, rfl, F⟩
  · rw [if_neg ha, if_neg ha]
    exact ⟨_, m, rfl, rfl, frV_rf m⟩
