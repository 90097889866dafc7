/-! THE ACTS (5): guessWord -/
theorem fit_okc {S : aS} {w i k : Nat} (h : fitB S w i = true) (hk : k < wn S w) : okc S w i k = true := by
  unfold fitB at h
  rw [Bool.and_eq_true] at h
  exact allB_iff.mp h.2 k hk
theorem fit_may {S : aS} {w i k : Nat} (h : fitB S w i = true) (hk : k < wn S w) : mayB S (S.2.2.2.2 i (k + 1)) (nAt S (cl S w k)) = true := by
  have := fit_okc h hk
  unfold okc at this
  rw [Bool.and_eq_true] at this
  exact this.1
theorem fit_iff {S : aS} {w i a b : Nat} (h : fitB S w i = true) (ha : a < wn S w) (hb : b < wn S w) : nAt S (cl S w a) = nAt S (cl S w b) ↔ S.2.2.2.2 i (a + 1) = S.2.2.2.2 i (b + 1) := by
  have key : ∀ x y, x < y → y < wn S w → (nAt S (cl S w x) = nAt S (cl S w y) ↔ S.2.2.2.2 i (x + 1) = S.2.2.2.2 i (y + 1)) := fun x y hxy hy => by
    have := fit_okc h hy
    unfold okc agrB at this
    rw [Bool.and_eq_true] at this
    have e := allB_iff.mp this.2 x hxy
    rw [beq_iff_eq] at e
    constructor
    · intro q
      rw [beq_iff_eq.mpr q] at e
      exact beq_iff_eq.mp e.symm
    · intro q
      rw [beq_iff_eq.mpr q] at e
      exact beq_iff_eq.mp e
  rcases Nat.lt_trichotomy a b with q | q | q
  · exact key a b q hb
  · subst q; exact ⟨fun _ => rfl, fun _ => rfl⟩
  · exact ⟨fun e => ((key b a q ha).mp e.symm).symm, fun e => ((key b a q ha).mpr e.symm).symm⟩
/-- the guesses after k cells -/
def gW (S : aS) (w i : Nat) : Nat → Nat → Nat
  | 0 => S.2.1
  | k + 1 => upN (gW S w i k) (nAt S (cl S w k)) (S.2.2.2.2 i (k + 1))
theorem gW_val {S : aS} {w i : Nat} (h : fitB S w i = true) : ∀ k, k ≤ wn S w → ∀ n, (gW S w i k n = S.2.1 n ∧ ∀ j, j < k → nAt S (cl S w j) ≠ n) ∨ ∃ j, j < k ∧ nAt S (cl S w j) = n ∧ gW S w i k n = S.2.2.2.2 i (j + 1)
  | 0, _, n => Or.inl ⟨rfl, fun j hj => absurd hj (by omega)⟩
  | k + 1, hk, n => by
    by_cases e : n = nAt S (cl S w k)
    · exact Or.inr ⟨k, by omega, e.symm, by show upN _ _ _ n = _; rw [e, upN_at]⟩
    · have h1 : gW S w i (k + 1) n = gW S w i k n := upN_ne e
      rcases gW_val h k (by omega) n with ⟨a, b⟩ | ⟨j, a, b, c⟩
      · exact Or.inl ⟨by rw [h1]; exact a, fun j hj => by
          by_cases q : j = k
          · rw [q]; exact fun x => e x.symm
          · exact b j (by omega)⟩
      · exact Or.inr ⟨j, by omega, b, by rw [h1]; exact c⟩
theorem may_none {S : aS} {l n k : Nat} (h : mayB S l n = true) (q : S.2.1 n = 0) (h1 : 1 ≤ k) (h2 : k ≤ 26) : S.2.1 k ≠ l := by
  intro e
  unfold mayB at h
  rw [if_pos q] at h
  have : anyB (fun i => S.2.1 (i + 1) == l) 26 = true := anyB_t (k := k - 1) (by omega) (by rw [show k - 1 + 1 = k by omega]; exact beq_iff_eq.mpr e)
  rw [this] at h
  exact absurd h (by decide)
theorem may_some {S : aS} {l n : Nat} (h : mayB S l n = true) (q : S.2.1 n ≠ 0) : S.2.1 n = l := by
  unfold mayB at h
  rw [if_neg q] at h
  exact beq_iff_eq.mp h
theorem nAt_w {S : aS} {w k : Nat} (h : w < nw S) (hk : k < wn S w) : 1 ≤ nAt S (cl S w k) ∧ nAt S (cl S w k) ≤ 26 := ⟨nAt_pos (cl_in h hk).2, nAt_le _ _⟩
theorem gW_fit {S : aS} {w i k : Nat} (h : fitB S w i = true) (hk : k < wn S w) (q : gW S w i k (nAt S (cl S w k)) ≠ 0) : gW S w i k (nAt S (cl S w k)) = S.2.2.2.2 i (k + 1) := by
  rcases gW_val h k (by omega) (nAt S (cl S w k)) with ⟨a, -⟩ | ⟨j, a, b, c⟩
  · rw [a] at q
    rw [a]
    exact may_some (fit_may h hk) q
  · rw [c]
    exact (fit_iff h (by omega) hk).mp b
def wG (S : aS) (g : Nat → Nat) : aS := (S.1, g, S.2.2)
theorem wn_wG (S : aS) (g : Nat → Nat) (w : Nat) : wn (wG S g) w = wn S w := by simp only [wn, wd, wG]
theorem cl_wG (S : aS) (g : Nat → Nat) (w k : Nat) : cl (wG S g) w k = cl S w k := by simp only [cl, wd, wG]
theorem nw_wG (S : aS) (g : Nat → Nat) : nw (wG S g) = nw S := by simp only [nw, wG]
theorem nAt_wG (S : aS) (g : Nat → Nat) (c : Nat) : nAt (wG S g) c = nAt S c := rfl
theorem Iv_gW {S : aS} (I : Iv S) {w i : Nat} (hw : w < nw S) (hi : i < S.2.2.2.1 5) (h : fitB S w i = true) {k : Nat} (hk : k ≤ wn S w) : Iv (wG S (gW S w i k)) := by
  have hl := fit_len h
  obtain ⟨i1, i2, i3, i4, i5, i6, i7, i8⟩ := I
  have ll : ∀ j, j < wn S w → 1 ≤ S.2.2.2.2 i (j + 1) ∧ S.2.2.2.2 i (j + 1) ≤ 26 := fun j hj => (i8 i hi).2.2 j (by omega)
  have mix : ∀ a b j, 1 ≤ b → b ≤ 26 → j < k → nAt S (cl S w j) = a → S.2.1 b = S.2.2.2.2 i (j + 1) → a = b := fun a b j h1 h2 hj ea eb => by
    have m := fit_may h (k := j) (by omega)
    have hn := nAt_w hw (k := j) (by omega)
    by_cases q : S.2.1 (nAt S (cl S w j)) = 0
    · exact absurd eb (may_none m q h1 h2)
    · have e := may_some m q
      have lj := ll j (by omega)
      have := i4 (nAt S (cl S w j)) b hn.1 hn.2 h1 h2 (by rw [e, eb]) q
      omega
  refine ⟨i1, i2, fun n h1 h2 => ?_, fun a b h1 h2 h3 h4 e e0 => ?_, i5, i6, i7, i8⟩
  · show gW S w i k n ≤ 26
    rcases gW_val h k hk n with ⟨a, -⟩ | ⟨j, a, b, c⟩
    · rw [a]; exact i3 n h1 h2
    · rw [c]; exact (ll j (by omega)).2
  · have e' : gW S w i k a = gW S w i k b := e
    have e0' : gW S w i k a ≠ 0 := e0
    rcases gW_val h k hk a with ⟨a1, -⟩ | ⟨j, a1, a2, a3⟩
    · rcases gW_val h k hk b with ⟨b1, -⟩ | ⟨j2, b1, b2, b3⟩
      · rw [a1, b1] at e'
        rw [a1] at e0'
        exact i4 a b h1 h2 h3 h4 e' e0'
      · rw [a1, b3] at e'
        exact (mix b a j2 h1 h2 b1 b2 e').symm
    · rcases gW_val h k hk b with ⟨b1, -⟩ | ⟨j2, b1, b2, b3⟩
      · rw [a3, b1] at e'
        exact mix a b j h3 h4 a1 a2 e'.symm
      · rw [a3, b3] at e'
        rw [← a2, ← b2]
        exact (fit_iff h (by omega) (by omega)).mpr e'
theorem upN_same {f : Nat → Nat} {n l : Nat} (h : f n = l) : upN f n l = f := by
  funext x
  unfold upN
  split
  · rename_i e; rw [e, h]
  · rfl
def gwc (S : aS) (w i : Nat) : Nat := cn (fun k => gW S w i k (nAt S (cl S w k)) == 0) (wn S w)
theorem X3_guessWord59 {z1 : zV} {S : aS} (I : Iv S) (W : RW z1 (wl S.1)) {w i : Nat} (hw : w < nw S) (hi : i < S.2.2.2.1 5) (h : fitB S w i = true) : ∀ (f k : Nat) (y : zV), k ≤ wn S w → wn S w - k < f → RC0 y (wG S (gW S w i k)) → frC 0 z1 y → ∃ z2, l_X3_guessWord_59 f y (nI w) (nI i) (nI (cn (fun k => gW S w i k (nAt S (cl S w k)) == 0) k)) (nI k) = some (nI (gwc S w i), z2) ∧ RC0 z2 (wG S (gW S w i (wn S w))) ∧ frC 0 z1 z2 := by
  have hww := nw_le S
  have hn := wn_in hw
  have hl := fit_len h
  intro f
  induction f with
  | zero => intro k y h1 h2; omega
  | succ f ih =>
    intro k y h1 h2 R F
    have Wy : RW y (wl S.1) := RW_frC F W
    rw [l_X3_guessWord_59, rA_in (by omega) (by omega), (RW_at Wy hw).2.1]
    by_cases q : k = wn S w
    · subst q
      rw [ifle_t (by omega) (by omega)]
      exact ⟨y, rfl, R, F⟩
    · have hk : k < wn S w := by omega
      have hnn := nAt_w hw hk
      have Ik := Iv_gW I hw hi h h1
      have lk := ll_in I hi (j := k) (by omega)
      have hcn := cn_le (fun k => gW S w i k (nAt S (cl S w k)) == 0) k
      have hw' : w < nw (wG S (gW S w i k)) := by rw [nw_wG]; exact hw
      have hk' : k < wn (wG S (gW S w i k)) w := by rw [wn_wG]; exact hk
      have hj : k < S.2.2.2.2 i 0 := by omega
      rw [ifle_f hk (by omega), X3_numberIn R Ik Wy hw' hk', nAt_wG, cl_wG, ob_eq, X3_isUnguessed R Ik hnn.1 hnn.2, ob_eq, ifb2, show (wG S (gW S w i k)).2.1 (nAt S (cl S w k)) = gW S w i k (nAt S (cl S w k)) from rfl]
      by_cases q0 : gW S w i k (nAt S (cl S w k)) = 0
      · have hb : (gW S w i k (nAt S (cl S w k)) == 0) = true := beq_iff_eq.mpr q0
        rw [if_pos hb, show f_X0_listedLetter y (nI i) (nI k) = some (nI (ec (S.2.2.2.2 i (k + 1)))) from X0_listedLetter R Ik hi hj, ob_eq, wS_in (by omega) (by omega), nI_add, nI_add]
        have := ih (k + 1) (sA y 2 (nAt S (cl S w k)) (nI (ec (S.2.2.2.2 i (k + 1))))) (by omega) (by omega) (RC0_sG R) (frC_tr F (frC_sA (by omega) (by omega)))
        rw [cn_t (p := fun k => gW S w i k (nAt S (cl S w k)) == 0) (n := k) hb] at this
        exact this
      · have hb : (gW S w i k (nAt S (cl S w k)) == 0) = false := beq_eq_false_iff_ne.mpr q0
        have hs : gW S w i (k + 1) = gW S w i k := upN_same (gW_fit h hk q0)
        rw [if_neg (by rw [hb]; decide), nI_add]
        have := ih (k + 1) y (by omega) (by omega) (by rw [hs]; exact R) F
        rw [cn_f (p := fun k => gW S w i k (nAt S (cl S w k)) == 0) (n := k) hb] at this
        exact this
theorem X4_guessWord39 {m1 : zV} {S : aS} (I : Iv S) (W : RV m1 (wl S.1)) {w i : Nat} (hw : w < nw S) (hi : i < S.2.2.2.1 5) (h : fitB S w i = true) : ∀ (f k : Nat) (y : zV), k ≤ wn S w → wn S w - k < f → RM0 y (wG S (gW S w i k)) → (∀ q, q ≠ 1 → y.2.1 q = m1.2.1 q) → y.1 = m1.1 → ∃ m2, l_X4_guessWord_39 f y (nI w) (nI i) (nI (cn (fun k => gW S w i k (nAt S (cl S w k)) == 0) k)) (nI k) = (if nI (gwc S w i) = nI 0 then some (-5, m2) else bd2 (f_X4_acted m2 (nI (gwc S w i))) (fun v z => some (v, z))) ∧ RM0 m2 (wG S (gW S w i (wn S w))) ∧ (∀ q, q ≠ 1 → m2.2.1 q = m1.2.1 q) ∧ m2.1 = m1.1 := by
  have hww := nw_le S
  have hn := wn_in hw
  have hl := fit_len h
  intro f
  induction f with
  | zero => intro k y h1 h2; omega
  | succ f ih =>
    intro k y h1 h2 R F1 F2
    have Wy : RV y (wl S.1) := RV_same (by rw [F2]) (F1 5 (by omega)) (F1 6 (by omega)) (F1 7 (by omega)) W
    rw [l_X4_guessWord_39, rA_in (by omega) (by omega), (RV_at Wy hw).2.1]
    by_cases q : k = wn S w
    · subst q
      rw [ifle_t (by omega) (by omega)]
      exact ⟨y, rfl, R, F1, F2⟩
    · have hk : k < wn S w := by omega
      have hnn := nAt_w hw hk
      have Ik := Iv_gW I hw hi h h1
      have lk := ll_in I hi (j := k) (by omega)
      have hcn := cn_le (fun k => gW S w i k (nAt S (cl S w k)) == 0) k
      have hg := Ik.2.2.1 _ hnn.1 hnn.2
      have hw' : w < nw (wG S (gW S w i k)) := by rw [nw_wG]; exact hw
      have hk' : k < wn (wG S (gW S w i k)) w := by rw [wn_wG]; exact hk
      have hj : k < S.2.2.2.2 i 0 := by omega
      have hnum : f_X4_numberAt y (nI (cl S w k)) = some (nI (nAt S (cl S w k))) := by
        have := X4_numberC R Ik hw' hk'
        rw [nAt_wG, cl_wG] at this
        exact this
      have hstep := ih (k + 1) (sA y 1 (51 + nAt S (cl S w k)) (eM (S.2.2.2.2 i (k + 1)))) (by omega) (by omega) (by rw [RM0_RF, sA_at]; exact RF_sG hnn.1 hnn.2 (RM0_RF.mp R)) (fun q h => by rw [sA_ne h]; exact F1 q h) F2
      rw [ifle_f hk (by omega), show f_X4_cellOf y (nI w) (nI k) = some (nI (cl S w k)) from X4_cellOf Wy hw k, ob_eq, hnum, ob_eq, nI_add, rA_in (by omega) (by omega), R.2.1 _ hnn.1 hnn.2, ifem0 hg, show f_X4_letterOfListed y (nI i) (nI k) = some (eM (S.2.2.2.2 i (k + 1))) from X4_letterOfListed R Ik hi hj, ob_eq, wS_in (by omega) (by omega), ob_eq, wS_in (by omega) (by omega), nI_add, nI_add, nI_add, Nat.add_zero, show (wG S (gW S w i k)).2.1 (nAt S (cl S w k)) = gW S w i k (nAt S (cl S w k)) from rfl]
      by_cases q0 : gW S w i k (nAt S (cl S w k)) = 0
      · have hb : (gW S w i k (nAt S (cl S w k)) == 0) = true := beq_iff_eq.mpr q0
        rw [if_pos q0]
        rw [cn_t (p := fun k => gW S w i k (nAt S (cl S w k)) == 0) (n := k) hb] at hstep
        exact hstep
      · have hb : (gW S w i k (nAt S (cl S w k)) == 0) = false := beq_eq_false_iff_ne.mpr q0
        rw [if_neg q0]
        rw [cn_f (p := fun k => gW S w i k (nAt S (cl S w k)) == 0) (n := k) hb] at hstep
        exact hstep
/-- all guessed already: nothing changes -/
theorem gW_full {S : aS} {w i : Nat} (h : fitB S w i = true) (hg : ∀ k, k < wn S w → S.2.1 (nAt S (cl S w k)) ≠ 0) : ∀ k, k ≤ wn S w → gW S w i k = S.2.1
  | 0, _ => rfl
  | k + 1, hk => by
    show upN (gW S w i k) _ _ = _
    rw [gW_full h hg k (by omega)]
    exact upN_same (may_some (fit_may h (by omega)) (hg k (by omega)))
theorem gwc_0 {S : aS} (I : Iv S) {w i : Nat} (hw : w < nw S) (h : fitB S w i = true) : gco S w = wn S w ↔ gwc S w i = 0 := by
  have hcs : ∀ k, k < wn S w → gAt S (cl S w k) = S.2.1 (nAt S (cl S w k)) := fun k hk => gAt_n (cl_in hw hk).2
  constructor
  · intro q
    have q' := cn_full.mp q
    have hg : ∀ k, k < wn S w → S.2.1 (nAt S (cl S w k)) ≠ 0 := fun k hk => by
      have := q' k hk
      simp only [Bool.not_eq_true', beq_eq_false_iff_ne] at this
      rw [← hcs k hk]; exact this
    refine Nat.eq_zero_of_not_pos (fun hp => ?_)
    obtain ⟨k, hk, e⟩ := cn_pos.mp hp
    rw [beq_iff_eq, gW_full h hg k (by omega)] at e
    exact hg k hk e
  · intro q
    refine cn_full.mpr (fun k hk => ?_)
    rw [hcs k hk, Bool.not_eq_true', beq_eq_false_iff_ne]
    intro e
    have hh : hasN S w (nAt S (cl S w k)) = true := anyB_t (k := k) hk (beq_iff_eq.mpr rfl)
    obtain ⟨p1, p2⟩ := hasN_at hh
    have : 0 < gwc S w i := cn_pos.mpr ⟨fpl S w (nAt S (cl S w k)), p1, by
      rw [beq_iff_eq, p2]
      rcases gW_val h (fpl S w (nAt S (cl S w k))) (by omega) (nAt S (cl S w k)) with ⟨a, -⟩ | ⟨j, a, b, c⟩
      · rw [a, e]
      · exact absurd b (beq_eq_false_iff_ne.mp (fst1_no (p := fun j => nAt S (cl S w j) == nAt S (cl S w k)) (n := wn S w) a))⟩
    omega
