/-! COULD and COUNT: both sides answer alike -/
theorem fit_len {S : aS} {w i : Nat} (h : fitB S w i = true) : wn S w = S.2.2.2.2 i 0 := by
  unfold fitB at h
  rw [Bool.and_eq_true] at h
  simpa using h.1
/-- a word that fits has one letter at all cells of a number -/
theorem fit_same {S : aS} {w i a b : Nat} (h : fitB S w i = true) (ha : a < wn S w) (hb : b < wn S w) (e : nAt S (cl S w a) = nAt S (cl S w b)) : S.2.2.2.2 i (a + 1) = S.2.2.2.2 i (b + 1) := by
  have key : ∀ a b, a < b → b < wn S w → nAt S (cl S w a) = nAt S (cl S w b) → S.2.2.2.2 i (a + 1) = S.2.2.2.2 i (b + 1) := by
    intro a b hab hb e
    have h2 := h
    unfold fitB at h2
    rw [Bool.and_eq_true] at h2
    have h3 := allB_iff.mp h2.2 b hb
    unfold okc at h3
    rw [Bool.and_eq_true] at h3
    have h4 := allB_iff.mp h3.2 a hab
    have e' : (nAt S (cl S w a) == nAt S (cl S w b)) = true := by simpa using e
    rw [e'] at h4
    simpa using h4
  rcases Nat.lt_or_ge a b with q | q
  · exact key a b q hb e
  · rcases Nat.lt_or_ge b a with q2 | q2
    · exact (key b a q2 ha e.symm).symm
    · have : a = b := by omega
      rw [this]
theorem hasN_at {S : aS} {w n : Nat} (h : hasN S w n = true) : fpl S w n < wn S w ∧ nAt S (cl S w (fpl S w n)) = n := by
  rw [hasN_fpl, decide_eq_true_eq] at h
  have := fst1_yes (p := fun k => nAt S (cl S w k) == n) (n := wn S w) h
  exact ⟨h, by unfold fpl; simpa using this⟩
theorem X4_isFitWith {m : zV} {S : aS} (R : RM0 m S) (I : Iv S) (W : RV m (wl S.1)) {w n l : Nat} (hw : w < nw S) (hn : n ≤ 26) (hl : l < 26) (hh : hasN S w n = true) : f_X4_isFitWith m (nI w) (nI n) (nI l) = some (b2 (offB S w n l)) := by
  have h28 := nw_le S
  have hwn := wn_in hw
  have h12 := I.2.2.2.2.2.2.1
  obtain ⟨hf1, hf2⟩ := hasN_at hh
  have inner : ∀ (K : Int32 → Int32 → Int32 → Int32 → Option Int32) i, i < S.2.2.2.1 5 → fitB S w i = true → ∀ f k, k ≤ wn S w → wn S w - k < f → (k ≤ fpl S w n ∨ S.2.2.2.2 i (fpl S w n + 1) ≠ l + 1) → l_X4_isFitWith_18 m K f (nI w) (nI n) (nI l) (nI i) (nI k) = (if (S.2.2.2.2 i (fpl S w n + 1) == l + 1) = true then some (nI 1) else K (nI w) (nI n) (nI l) (nI (i + 1))) := by
    intro K i hi hfit f
    have hlen := fit_len hfit
    induction f with
    | zero => intro k _ h; omega
    | succ f ih =>
      intro k hk hf hor
      rw [l_X4_isFitWith_18, rA_in (by omega) (by omega), (RV_at W hw).2.1]
      by_cases e : k = wn S w
      · rw [ifle_t (by omega) (by omega), nI_add]
        have h3 : S.2.2.2.2 i (fpl S w n + 1) ≠ l + 1 := by
          rcases hor with q | q
          · omega
          · exact q
        rw [if_neg (by simpa using h3)]
      · have hkl : k < wn S w := by omega
        have hcl := cl_lt hw hkl
        have hnk := nAt_le S (cl S w k)
        have hll := ll_in I hi (j := k) (by omega)
        rw [ifle_f hkl (by omega), X4_isFit R I W hw hi, ob_eq, ifb2, if_pos hfit, X4_cellOf W hw, ob_eq, X4_numberC R I hw hkl, ob_eq]
        by_cases c : nAt S (cl S w k) = n
        · have hs := fit_same hfit hkl hf1 (by rw [c, hf2])
          rw [ifeq_t c, X4_letterOfListed R I hi (by omega), ob_eq, hs, eM_pos (by omega)]
          by_cases d : S.2.2.2.2 i (fpl S w n + 1) = l + 1
          · rw [ifeq_t (by omega), rB1, if_pos (by simpa using d)]
          · rw [ifeq_f (by omega) (by omega) (by omega), nI_add, ih (k + 1) (by omega) (by omega) (Or.inr d)]
        · rw [ifeq_f c (by omega) (by omega), nI_add, ih (k + 1) (by omega) (by omega)]
          rcases hor with q | q
          · left
            by_cases ek : k = fpl S w n
            · rw [ek] at c
              exact absurd hf2 c
            · omega
          · exact Or.inr q
  have step : ∀ f i, i < S.2.2.2.1 5 → l_X4_isFitWith_3 m (f + 1) (nI w) (nI n) (nI l) (nI i) = if (fitB S w i && S.2.2.2.2 i (fpl S w n + 1) == l + 1) = true then some (nI 1) else l_X4_isFitWith_3 m f (nI w) (nI n) (nI l) (nI (i + 1)) := by
    intro f i hi
    rw [l_X4_isFitWith_3, rA_in (by omega) (by omega), R.2.2.2.2.2.1, ifle_f (by omega) (by omega)]
    by_cases q : fitB S w i = true
    · rw [inner _ i hi q 1000 0 (by omega) (by omega) (Or.inl (by omega)), q, Bool.true_and]
    · have q' : fitB S w i = false := by simpa using q
      rw [l_X4_isFitWith_18, rA_in (by omega) (by omega), (RV_at W hw).2.1, ifle_f (by omega) (by omega), X4_isFit R I W hw hi, ob_eq, ifb2, if_neg q, q', Bool.false_and, nI_add]
      rfl
  rw [f_X4_isFitWith, offB, fst1_any]
  refine lp_fst (L := fun f i => l_X4_isFitWith_3 m f (nI w) (nI n) (nI l) (nI i)) (fun i => fitB S w i && S.2.2.2.2 i (fpl S w n + 1) == l + 1) (S.2.2.2.1 5) (fun i => some (b2 (decide (i < S.2.2.2.1 5)))) (fun f => ?_) (fun f k hk q => ?_) (fun f k hk q => ?_) 1000 (by omega)
  · rw [l_X4_isFitWith_3, rA_in (by omega) (by omega), R.2.2.2.2.2.1, ifle_t (by omega) (by omega), rB0]; simp [b2]
  · rw [step f k hk, if_pos q]; simp [b2, hk]
  · rw [step f k hk, if_neg (by rw [q]; decide)]
theorem X4_couldBe {m : zV} {S : aS} (R : RM0 m S) (I : Iv S) (W : RV m (wl S.1)) {n l : Nat} (hn : n ≤ 26) (hl : l < 26) : f_X4_couldBe m (nI n) (nI l) = some (b2 (posB S n l)) := by
  have h28 := nw_le S
  have step : ∀ f w, w < nw S → l_X4_couldBe_18 m (f + 1) (nI n) (nI l) (b2 true) (nI w) = l_X4_couldBe_18 m f (nI n) (nI l) (b2 (okw S w n l)) (nI (w + 1)) := by
    intro f w hw
    have hft : ftl S w ≤ S.2.2.2.1 5 := cn_le _ _
    have h12 := I.2.2.2.2.2.2.1
    rw [l_X4_couldBe_18, RV_n W, ifle_f (by omega) (by omega), ifb2, if_pos rfl, X4_hasNumber R I W hw hn, ob_eq, ifb2, nI_add]
    unfold okw
    by_cases a : hasN S w n = true
    · rw [if_pos a, X4_fitting R I W hw, ob_eq, a]
      by_cases b : ftl S w = 0
      · rw [ifeq_t b, b]; rfl
      · have b' : (ftl S w == 0) = false := by simpa using b
        rw [ifeq_f b (by omega) (by omega), X4_isFitWith R I W hw hn hl a, ob_eq, ifb2, b']
        cases offB S w n l <;> rfl
    · have a' : hasN S w n = false := by simpa using a
      rw [if_neg a, a']; rfl
  have key : l_X4_couldBe_18 m 1000 (nI n) (nI l) (b2 true) (nI 0) = some (b2 (allB (fun w => okw S w n l) (nw S))) := by
    refine lp_all (L := fun f w => l_X4_couldBe_18 m f (nI n) (nI l) (b2 true) (nI w)) (fun w => okw S w n l) (nw S) (fun f => ?_) (fun f k hk q => ?_) (fun f k hk q => ?_) 1000 (by omega)
    · rw [l_X4_couldBe_18, RV_n W, ifle_t (by omega) (by omega), rB_b2]
    · rw [step (f + 1) k hk, q, l_X4_couldBe_18, RV_n W, b2_f, if_pos rfl, rB0]
      split <;> rfl
    · rw [step f k hk, q]
  have e1 : nI l = eM (l + 1) := by rw [eM_pos (by omega)]; rfl
  rw [f_X4_couldBe]
  have ho := X4_isGuessOfAnother R I (l := l + 1) (n := n) (by omega) hn
  rw [← e1] at ho
  rw [ho, ob_eq, ifb2]
  unfold posB
  by_cases q : otherG S (l + 1) n = true
  · rw [if_pos q, q, l_X4_couldBe_18, if_pos rfl, rB0]
    split <;> rfl
  · have q' : otherG S (l + 1) n = false := by simpa using q
    rw [if_neg q, q']
    rw [b2_t] at key
    rw [key]; rfl
theorem cn_mono {p : Nat → Bool} {a b : Nat} (h : a ≤ b) : cn p a ≤ cn p b := by
  obtain ⟨d, rfl⟩ : ∃ d, b = a + d := ⟨b - a, by omega⟩
  rw [cn_split]
  omega
def loB (p : Nat → Bool) : Nat → Int32
  | 0 => -5
  | j + 1 => if p (25 - j) = true then nI (97 + (25 - j)) else loB p j
theorem loB_spec (p : Nat → Bool) : ∀ j, j ≤ 26 → ((∀ l, 26 - j ≤ l → l < 26 → p l = false) ∧ loB p j = -5) ∨ ∃ l0, 26 - j ≤ l0 ∧ l0 < 26 ∧ p l0 = true ∧ (∀ l, 26 - j ≤ l → l < l0 → p l = false) ∧ loB p j = nI (97 + l0)
  | 0, _ => Or.inl ⟨fun l h1 h2 => by omega, rfl⟩
  | j + 1, hj => by
    rw [loB]
    by_cases q : p (25 - j) = true
    · rw [if_pos q]
      exact Or.inr ⟨25 - j, by omega, by omega, q, fun l h1 h2 => by omega, rfl⟩
    · have q' : p (25 - j) = false := by simpa using q
      rw [if_neg q]
      rcases loB_spec p j (by omega) with ⟨h1, h2⟩ | ⟨l0, h1, h2, h3, h4, h5⟩
      · refine Or.inl ⟨fun l a b => ?_, h2⟩
        by_cases e : l = 25 - j
        · rw [e]; exact q'
        · exact h1 l (by omega) b
      · refine Or.inr ⟨l0, by omega, h2, h3, fun l a b => ?_, h5⟩
        by_cases e : l = 25 - j
        · rw [e]; exact q'
        · exact h4 l (by omega) b
theorem loB_low (p : Nat → Bool) : loB p 26 = lowB p := by
  unfold lowB
  rcases loB_spec p 26 (Nat.le_refl _) with ⟨h1, h2⟩ | ⟨l0, h1, h2, h3, h4, h5⟩
  · have : ¬ fst1 p 26 < 26 := fun q => by
      have := fst1_yes q
      rw [h1 _ (by omega) q] at this
      cases this
    rw [h2]
    simp [on5, this]
  · have e : fst1 p 26 = l0 := by
      rcases Nat.lt_or_ge (fst1 p 26) l0 with a | a
      · have := fst1_yes (p := p) (n := 26) (by omega)
        rw [h4 _ (by omega) a] at this
        cases this
      · rcases Nat.lt_or_ge l0 (fst1 p 26) with b | b
        · rw [fst1_no b] at h3
          cases h3
        · omega
    rw [h5, e]
    simp [on5, h2]
theorem eM_dn {k : Nat} : eM (k + 1) + (-1) = eM k := by
  rw [eM_pos (by omega), show k + 1 - 1 = k by omega]
  cases k with
  | zero => decide
  | succ k => rw [pk_m1, eM_pos (by omega)]; rfl
theorem X4_could60 {m : zV} {S : aS} (R : RM0 m S) (I : Iv S) (W : RV m (wl S.1)) {n : Nat} (hn : n ≤ 26) (b : Int32) : l_X4_could_60 1000 m (nI n) b (nI 0) (-5) (nI 25) = some (if b = nI 0 then nI (cn (fun l => posB S n l) 26) else lowB (fun l => posB S n l), m) := by
  rw [← loB_low]
  have key : ∀ (f j : Nat), j ≤ 26 → 26 - j < f → l_X4_could_60 f m (nI n) b (nI (cn (fun l => posB S n l) 26 - cn (fun l => posB S n l) (26 - j))) (loB (fun l => posB S n l) j) (eM (26 - j)) = some (if b = nI 0 then nI (cn (fun l => posB S n l) 26) else loB (fun l => posB S n l) 26, m) := by
    intro f
    induction f with
    | zero => intro j _ h; omega
    | succ f ih =>
      intro j hj hf
      rw [l_X4_could_60]
      by_cases e : j = 26
      · subst e
        rw [show eM (26 - 26) = -1 from rfl, if_pos (by decide), show cn (fun l => posB S n l) (26 - 26) = 0 from rfl, Nat.sub_zero]
        by_cases q : b = nI 0
        · rw [if_pos q, if_pos q]
        · rw [if_neg q, if_neg q]
      · have e26 : 26 - j = (25 - j) + 1 := by omega
        have h1 : eM (26 - j) = nI (25 - j) := by rw [eM_pos (by omega)]; congr 1; omega
        have h2 : eM (26 - j) + (-1) = eM (26 - (j + 1)) := by rw [e26, eM_dn, show 26 - (j + 1) = 25 - j by omega]
        have hc1 : cn (fun l => posB S n l) (26 - j) ≤ cn (fun l => posB S n l) 26 := cn_mono (by omega)
        have hc2 : cn (fun l => posB S n l) (26 - (j + 1)) ≤ cn (fun l => posB S n l) 26 := cn_mono (by omega)
        have ihj := ih (j + 1) (by omega) (by omega)
        rw [loB] at ihj
        have e27 : 26 - (j + 1) = 25 - j := by omega
        rw [if_neg (by rw [h1]; exact nI_pos (by omega))]
        simp only [j_X4_could_85, h2]
        rw [h1, X4_couldBe R I W hn (by omega), ob_eq]
        rw [e27] at ihj hc2
        by_cases q : posB S n (25 - j) = true
        · have hq : cn (fun l => posB S n l) (26 - j) = cn (fun l => posB S n l) (25 - j) + 1 := by rw [e26]; exact cn_t (p := fun l => posB S n l) q
          rw [if_pos q] at ihj
          rw [q, b2_t, ifeq_f (a := 1) (b := 0) (by omega) (by omega) (by omega), ifeq_f (a := 1) (b := 0) (by omega) (by omega) (by omega), nI_add, nI_add, e27, ← ihj, hq]
          have e28 : cn (fun l => posB S n l) 26 - (cn (fun l => posB S n l) (25 - j) + 1) + 1 = cn (fun l => posB S n l) 26 - cn (fun l => posB S n l) (25 - j) := by omega
          rw [e28]
        · have hq : cn (fun l => posB S n l) (26 - j) = cn (fun l => posB S n l) (25 - j) := by rw [e26]; exact cn_f (p := fun l => posB S n l) (by simpa using q)
          rw [if_neg q] at ihj
          have q' : posB S n (25 - j) = false := by simpa using q
          rw [q', b2_f, ifeq_t (a := 0) (b := 0) rfl, ifeq_t (a := 0) (b := 0) rfl, nI_add, e27, ← ihj, hq, Nat.add_zero]
  have := key 1000 0 (by omega) (by omega)
  rw [Nat.sub_zero, Nat.sub_self] at this
  exact this
