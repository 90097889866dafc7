/-! THE WORDS OF THE GRID: a list of starts, lengths, steps, as both sides find it -/
def lnW (g : Nat → Nat) (a p : Nat) : Nat → Nat × List (Nat × Nat × Nat)
  | 0 => (0, [])
  | k + 1 => if k < 7 ∧ g (a + k * p) ≠ 0 then ((lnW g a p k).1 + 1, (lnW g a p k).2) else (0, if 2 ≤ (lnW g a p k).1 then (lnW g a p k).2 ++ [(a + (k - (lnW g a p k).1) * p, (lnW g a p k).1, p)] else (lnW g a p k).2)
theorem lnW_y {g : Nat → Nat} {a p k : Nat} (h : k < 7) (h2 : g (a + k * p) ≠ 0) : lnW g a p (k + 1) = ((lnW g a p k).1 + 1, (lnW g a p k).2) := by rw [lnW, if_pos ⟨h, h2⟩]
theorem lnW_n {g : Nat → Nat} {a p k : Nat} (h : ¬ (k < 7 ∧ g (a + k * p) ≠ 0)) : lnW g a p (k + 1) = (0, if 2 ≤ (lnW g a p k).1 then (lnW g a p k).2 ++ [(a + (k - (lnW g a p k).1) * p, (lnW g a p k).1, p)] else (lnW g a p k).2) := by rw [lnW, if_neg h]
def PL (g : Nat → Nat) (a p : Nat) (w : Nat × Nat × Nat) : Prop := w.2.2 = p ∧ 2 ≤ w.2.1 ∧ ∃ i, w.1 = a + i * p ∧ i + w.2.1 ≤ 7 ∧ ∀ k, k < w.2.1 → g (a + (i + k) * p) ≠ 0
theorem lnW_spec (g : Nat → Nat) (a p : Nat) : ∀ k, k ≤ 8 → (lnW g a p k).1 ≤ k ∧ (lnW g a p k).1 ≤ 7 ∧ 3 * (lnW g a p k).2.length + (lnW g a p k).1 ≤ k ∧ (∀ i, i < k → k ≤ i + (lnW g a p k).1 → g (a + i * p) ≠ 0) ∧ ∀ w, w ∈ (lnW g a p k).2 → PL g a p w
  | 0, _ => ⟨Nat.le_refl 0, by simp [lnW], by simp [lnW], fun i h => by omega, fun w h => by simp [lnW] at h⟩
  | k + 1, hk => by
    obtain ⟨h1, h2, h3, h4, h5⟩ := lnW_spec g a p k (by omega)
    by_cases c : k < 7 ∧ g (a + k * p) ≠ 0
    · rw [lnW_y c.1 c.2]
      dsimp only
      refine ⟨by omega, by omega, by omega, fun i hi hr => ?_, h5⟩
      by_cases e : i = k
      · subst e; exact c.2
      · exact h4 i (by omega) (by omega)
    · rw [lnW_n c]
      dsimp only
      by_cases r : 2 ≤ (lnW g a p k).1
      · rw [if_pos r]
        refine ⟨by omega, by omega, by rw [List.length_append]; simp; omega, fun i hi hr => by omega, fun w hw => ?_⟩
        rcases List.mem_append.mp hw with q | q
        · exact h5 w q
        · rw [List.mem_singleton] at q
          subst q
          refine ⟨rfl, r, k - (lnW g a p k).1, rfl, ?_, fun j hj => h4 _ (by dsimp only at hj; omega) (by dsimp only at hj; omega)⟩
          dsimp only
          omega
      · rw [if_neg r]
        exact ⟨by omega, by omega, by omega, fun i hi hr => by omega, h5⟩
def rowsW (g : Nat → Nat) : Nat → List (Nat × Nat × Nat)
  | 0 => []
  | r + 1 => rowsW g r ++ (lnW g (r * 7) 1 8).2
def colsW (g : Nat → Nat) : Nat → List (Nat × Nat × Nat)
  | 0 => rowsW g 7
  | c + 1 => colsW g c ++ (lnW g c 7 8).2
def wl (g : Nat → Nat) : List (Nat × Nat × Nat) := colsW g 7
def PW (g : Nat → Nat) (w : Nat × Nat × Nat) : Prop := 2 ≤ w.2.1 ∧ w.2.1 ≤ 7 ∧ (w.2.2 = 1 ∨ w.2.2 = 7) ∧ ∀ k, k < w.2.1 → w.1 + k * w.2.2 < 49 ∧ g (w.1 + k * w.2.2) ≠ 0
theorem PL_row {g : Nat → Nat} {r : Nat} (hr : r < 7) {w : Nat × Nat × Nat} (h : PL g (r * 7) 1 w) : PW g w := by
  obtain ⟨s, n, p⟩ := w
  obtain ⟨e, h2, i, e1, h3, h4⟩ := h
  dsimp only at e h2 e1 h3 h4
  subst e; subst e1
  refine ⟨h2, by dsimp only; omega, Or.inl rfl, fun k hk => ⟨by dsimp only at hk ⊢; omega, ?_⟩⟩
  have := h4 k hk
  dsimp only
  rw [show r * 7 + i * 1 + k * 1 = r * 7 + (i + k) * 1 by omega]
  exact this
theorem PL_col {g : Nat → Nat} {c : Nat} (hc : c < 7) {w : Nat × Nat × Nat} (h : PL g c 7 w) : PW g w := by
  obtain ⟨s, n, p⟩ := w
  obtain ⟨e, h2, i, e1, h3, h4⟩ := h
  dsimp only at e h2 e1 h3 h4
  subst e; subst e1
  refine ⟨h2, by dsimp only; omega, Or.inr rfl, fun k hk => ⟨by dsimp only at hk ⊢; omega, ?_⟩⟩
  have := h4 k hk
  dsimp only
  rw [show c + i * 7 + k * 7 = c + (i + k) * 7 by omega]
  exact this
theorem lnW_len (g : Nat → Nat) (a p : Nat) : (lnW g a p 8).2.length ≤ 2 := by
  have := (lnW_spec g a p 8 (Nat.le_refl 8)).2.2.1
  omega
theorem rowsW_spec (g : Nat → Nat) : ∀ r, r ≤ 7 → (rowsW g r).length ≤ 2 * r ∧ ∀ w, w ∈ rowsW g r → PW g w
  | 0, _ => ⟨by simp [rowsW], fun w h => by simp [rowsW] at h⟩
  | r + 1, h => by
    obtain ⟨h1, h2⟩ := rowsW_spec g r (by omega)
    have h3 := lnW_len g (r * 7) 1
    rw [rowsW]
    refine ⟨by rw [List.length_append]; omega, fun w hw => ?_⟩
    rcases List.mem_append.mp hw with q | q
    · exact h2 w q
    · exact PL_row (by omega) ((lnW_spec g (r * 7) 1 8 (Nat.le_refl 8)).2.2.2.2 w q)
theorem colsW_spec (g : Nat → Nat) : ∀ c, c ≤ 7 → (colsW g c).length ≤ 14 + 2 * c ∧ ∀ w, w ∈ colsW g c → PW g w
  | 0, _ => by
    obtain ⟨h1, h2⟩ := rowsW_spec g 7 (by omega)
    exact ⟨by rw [colsW]; omega, fun w hw => h2 w (by rw [colsW] at hw; exact hw)⟩
  | c + 1, h => by
    obtain ⟨h1, h2⟩ := colsW_spec g c (by omega)
    have h3 := lnW_len g c 7
    rw [colsW]
    refine ⟨by rw [List.length_append]; omega, fun w hw => ?_⟩
    rcases List.mem_append.mp hw with q | q
    · exact h2 w q
    · exact PL_col (by omega) ((lnW_spec g c 7 8 (Nat.le_refl 8)).2.2.2.2 w q)
theorem wl_len (g : Nat → Nat) : (wl g).length ≤ 28 := (colsW_spec g 7 (by omega)).1
theorem wl_PW {g : Nat → Nat} {w : Nat × Nat × Nat} (h : w ∈ wl g) : PW g w := (colsW_spec g 7 (by omega)).2 w h
theorem lnW_cong {g g' : Nat → Nat} {a p : Nat} : ∀ k, (∀ j, j < 7 → j < k → g (a + j * p) = g' (a + j * p)) → lnW g a p k = lnW g' a p k
  | 0, _ => rfl
  | k + 1, h => by
    have ih := lnW_cong k (fun j h1 h2 => h j h1 (by omega))
    by_cases c : k < 7
    · rw [lnW, lnW, ih, h k c (by omega)]
    · rw [lnW_n (fun q => c q.1), lnW_n (fun q => c q.1), ih]
theorem rowsW_cong {g g' : Nat → Nat} (h : ∀ c, c < 49 → g c = g' c) : ∀ r, r ≤ 7 → rowsW g r = rowsW g' r
  | 0, _ => rfl
  | r + 1, hr => by rw [rowsW, rowsW, rowsW_cong h r (by omega), lnW_cong 8 (fun j h1 _ => h _ (by omega))]
theorem colsW_cong {g g' : Nat → Nat} (h : ∀ c, c < 49 → g c = g' c) : ∀ r, r ≤ 7 → colsW g r = colsW g' r
  | 0, _ => rowsW_cong h 7 (Nat.le_refl 7)
  | r + 1, hr => by rw [colsW, colsW, colsW_cong h r (by omega), lnW_cong 8 (fun j h1 _ => h _ (by omega))]
theorem wl_cong {g g' : Nat → Nat} (h : ∀ c, c < 49 → g c = g' c) : wl g = wl g' := colsW_cong h 7 (Nat.le_refl 7)
/-! the arrays of words: of the class (36 .. 39) and of the model (9; 5 .. 7) -/
def RW (z : zV) (L : List (Nat × Nat × Nat)) : Prop := z.1 36 3 = nI L.length ∧ ∀ (w : Nat) (t : Nat × Nat × Nat), L[w]? = some t → z.2.1 37 w = nI t.1 ∧ z.2.1 38 w = nI t.2.1 ∧ z.2.1 39 w = nI t.2.2
def RV (m : zV) (L : List (Nat × Nat × Nat)) : Prop := m.1 0 9 = nI L.length ∧ ∀ (w : Nat) (t : Nat × Nat × Nat), L[w]? = some t → m.2.1 5 w = nI t.1 ∧ m.2.1 6 w = nI t.2.1 ∧ m.2.1 7 w = nI t.2.2
def frW (z z' : zV) : Prop := (∀ q, q ≠ 37 → q ≠ 38 → q ≠ 39 → z'.2.1 q = z.2.1 q) ∧ (∀ q k, q ≠ 36 → z'.1 q k = z.1 q k) ∧ z'.2.2 = z.2.2
def frV (m m' : zV) : Prop := (∀ q, q ≠ 5 → q ≠ 6 → q ≠ 7 → m'.2.1 q = m.2.1 q) ∧ (∀ q k, k ≠ 9 → m'.1 q k = m.1 q k)
theorem frW_rf (z : zV) : frW z z := ⟨fun _ _ _ _ => rfl, fun _ _ _ => rfl, rfl⟩
theorem frV_rf (z : zV) : frV z z := ⟨fun _ _ _ _ => rfl, fun _ _ _ => rfl⟩
theorem frW_tr {a b c : zV} (h1 : frW a b) (h2 : frW b c) : frW a c := ⟨fun q x y w => (h2.1 q x y w).trans (h1.1 q x y w), fun q k x => (h2.2.1 q k x).trans (h1.2.1 q k x), h2.2.2.trans h1.2.2⟩
theorem frV_tr {a b c : zV} (h1 : frV a b) (h2 : frV b c) : frV a c := ⟨fun q x y w => (h2.1 q x y w).trans (h1.1 q x y w), fun q k x => (h2.2 q k x).trans (h1.2 q k x)⟩
theorem ap_get {L : List (Nat × Nat × Nat)} {x y : Nat × Nat × Nat} {w : Nat} (h : (L ++ [x])[w]? = some y) : (w < L.length ∧ L[w]? = some y) ∨ (w = L.length ∧ y = x) := by
  by_cases hl : w < L.length
  · rw [List.getElem?_append_left hl] at h
    exact Or.inl ⟨hl, h⟩
  · rw [List.getElem?_append_right (by omega)] at h
    have hz : w - L.length < 1 := (List.getElem?_eq_some_iff.mp h).1
    have : w = L.length := by omega
    subst this
    rw [Nat.sub_self] at h
    cases h
    exact Or.inr ⟨rfl, rfl⟩
theorem X2_append {z : zV} {L : List (Nat × Nat × Nat)} (R : RW z L) {s n p : Nat} (hn : 2 ≤ n) (hn2 : n ≤ 7) (hL : L.length < 28) : ∃ z', f_X2_append z (nI s) (nI n) (nI p) = some z' ∧ RW z' (L ++ [(s, n, p)]) ∧ frW z z' := by
  obtain ⟨e, R⟩ := R
  rw [f_X2_append, iflt_f hn (by omega), e, iflt_t hL (by omega), wS_in hL (by omega)]
  have e2 : (sA z 37 L.length (nI s)).1 36 3 = nI L.length := e
  rw [e2, wS_in hL (by omega)]
  have e3 : (sA (sA z 37 L.length (nI s)) 38 L.length (nI n)).1 36 3 = nI L.length := e
  rw [e3, wS_in hL (by omega)]
  have e4 : (sA (sA (sA z 37 L.length (nI s)) 38 L.length (nI n)) 39 L.length (nI p)).1 36 3 = nI L.length := e
  rw [e4, pS_eq, nI_add]
  refine ⟨_, rfl, ⟨by simp [sI], fun w t hw => ?_⟩, ⟨fun q h1 h2 h3 => ?_, fun q k h => ?_, rfl⟩⟩
  · rcases ap_get hw with ⟨h1, h2⟩ | ⟨h1, h2⟩
    · have := R w t h2
      have hne : w ≠ L.length := by omega
      simp [sI, sA, hne, this]
    · cases h2
      subst h1
      simp [sI, sA]
  · funext j
    simp [sI, sA, h1, h2, h3]
  · simp [sI, sA, h]
theorem X2_append0 {z : zV} {a : Int32} {n : Nat} {b : Int32} (hn : n < 2) : f_X2_append z a (nI n) b = some z := by rw [f_X2_append, iflt_t hn (by omega)]
theorem X2_line {g : Nat → Nat} {a p : Nat} (hb : a + 6 * p < 49) (hg : ∀ c, c < 49 → g c ≤ 26) {L : List (Nat × Nat × Nat)} (hL : L.length ≤ 26) : ∀ (f k : Nat) (z : zV), k ≤ 8 → 8 - k < f → (∀ c, c < 49 → z.2.1 1 c = nI (ec (g c))) → RW z (L ++ (lnW g a p k).2) → ∃ z', l_X2_findInLine_6 f z (nI a) (nI p) (nI (lnW g a p k).1) (nI k) = some z' ∧ RW z' (L ++ (lnW g a p 8).2) ∧ frW z z' := by
  intro f
  induction f with
  | zero => intro k z _ h; omega
  | succ f ih =>
    intro k z hk hf hl hR
    obtain ⟨h1, h2, h3, -, -⟩ := lnW_spec g a p k hk
    rw [l_X2_findInLine_6]
    by_cases e : k = 8
    · subst e
      rw [iflt_t (by omega) (by omega)]
      exact ⟨z, rfl, hR, frW_rf z⟩
    · rw [iflt_f (by omega) (by omega)]
      have hj : ∀ (hc : ¬ (k < 7 ∧ g (a + k * p) ≠ 0)), ∃ z', j_X2_findInLine_37 (l_X2_findInLine_6 f) z (nI a) (nI p) (nI (lnW g a p k).1) (nI k) = some z' ∧ RW z' (L ++ (lnW g a p 8).2) ∧ frW z z' := by
        intro hc
        rw [j_X2_findInLine_37, pk_sub h1, pk_mul, nI_add, nI_add]
        by_cases r : 2 ≤ (lnW g a p k).1
        · obtain ⟨z1, e1, R1, F1⟩ := X2_append hR (s := a + (k - (lnW g a p k).1) * p) (n := (lnW g a p k).1) (p := p) r h2 (by rw [List.length_append]; omega)
          rw [e1, ob_eq]
          have ihk := ih (k + 1) z1 (by omega) (by omega) (fun c hc2 => by rw [F1.1 1 (by omega) (by omega) (by omega)]; exact hl c hc2)
          rw [lnW_n hc, if_pos r] at ihk
          obtain ⟨z2, e2, R2, F2⟩ := ihk (by rw [← List.append_assoc]; exact R1)
          exact ⟨z2, e2, R2, frW_tr F1 F2⟩
        · rw [X2_append0 (by omega), ob_eq]
          have ihk := ih (k + 1) z (by omega) (by omega) hl
          rw [lnW_n hc, if_neg r] at ihk
          exact ihk hR
      by_cases c7 : k < 7
      · have hm : k * p ≤ 6 * p := Nat.mul_le_mul_right p (by omega)
        rw [ifle_f c7 (by omega), pk_mul, nI_add, rA_in (by omega) (by omega), hl _ (by omega), ifec0 (hg _ (by omega))]
        by_cases q : g (a + k * p) = 0
        · rw [if_pos q]
          exact hj (fun x => x.2 q)
        · rw [if_neg q, nI_add, nI_add]
          have ihk := ih (k + 1) z (by omega) (by omega) hl
          rw [lnW_y c7 q] at ihk
          exact ihk hR
      · rw [ifle_t (by omega) (by omega)]
        exact hj (fun x => c7 x.1)
theorem X2_findInLine {g : Nat → Nat} {a p : Nat} (hb : a + 6 * p < 49) (hg : ∀ c, c < 49 → g c ≤ 26) {L : List (Nat × Nat × Nat)} (hL : L.length ≤ 26) {z : zV} (hl : ∀ c, c < 49 → z.2.1 1 c = nI (ec (g c))) (R : RW z L) : ∃ z', f_X2_findInLine z (nI a) (nI p) = some z' ∧ RW z' (L ++ (lnW g a p 8).2) ∧ frW z z' := by
  rw [f_X2_findInLine]
  exact X2_line hb hg hL 1000 0 z (by omega) (by omega) hl (by rw [lnW, List.append_nil]; exact R)
theorem X2_find {g : Nat → Nat} (hg : ∀ c, c < 49 → g c ≤ 26) {z : zV} (hl : ∀ c, c < 49 → z.2.1 1 c = nI (ec (g c))) : ∃ z', f_X2_find z = some z' ∧ RW z' (wl g) ∧ frW z z' := by
  have cols : ∀ (f c : Nat) (z : zV), c ≤ 7 → 7 - c < f → (∀ c, c < 49 → z.2.1 1 c = nI (ec (g c))) → RW z (colsW g c) → ∃ z', l_X2_find_31 f z (nI c) = some z' ∧ RW z' (wl g) ∧ frW z z' := by
    intro f
    induction f with
    | zero => intro c z _ h; omega
    | succ f ih =>
      intro c z hc hf hl hR
      rw [l_X2_find_31]
      by_cases e : c = 7
      · subst e
        rw [ifle_t (by omega) (by omega)]
        exact ⟨z, rfl, hR, frW_rf z⟩
      · obtain ⟨z1, e1, R1, F1⟩ := X2_findInLine (a := c) (p := 7) (by omega) hg (by have := (colsW_spec g c hc).1; omega) hl hR
        rw [ifle_f (by omega) (by omega), e1, ob_eq, nI_add]
        obtain ⟨z2, e2, R2, F2⟩ := ih (c + 1) z1 (by omega) (by omega) (fun c hc2 => by rw [F1.1 1 (by omega) (by omega) (by omega)]; exact hl c hc2) R1
        exact ⟨z2, e2, R2, frW_tr F1 F2⟩
  have rows : ∀ (f r : Nat) (z : zV), r ≤ 7 → 7 - r < f → (∀ c, c < 49 → z.2.1 1 c = nI (ec (g c))) → RW z (rowsW g r) → ∃ z', l_X2_find_7 f z (nI r) = some z' ∧ RW z' (wl g) ∧ frW z z' := by
    intro f
    induction f with
    | zero => intro c z _ h; omega
    | succ f ih =>
      intro r z hc hf hl hR
      rw [l_X2_find_7]
      by_cases e : r = 7
      · subst e
        rw [ifle_t (by omega) (by omega)]
        exact cols 1000 0 z (by omega) (by omega) hl hR
      · obtain ⟨z1, e1, R1, F1⟩ := X2_findInLine (a := r * 7) (p := 1) (by omega) hg (by have := (rowsW_spec g r hc).1; omega) hl hR
        rw [ifle_f (by omega) (by omega), pk_mul, e1, ob_eq, nI_add]
        obtain ⟨z2, e2, R2, F2⟩ := ih (r + 1) z1 (by omega) (by omega) (fun c hc2 => by rw [F1.1 1 (by omega) (by omega) (by omega)]; exact hl c hc2) R1
        exact ⟨z2, e2, R2, frW_tr F1 F2⟩
  rw [f_X2_find, pS_eq]
  obtain ⟨z2, e2, R2, F2⟩ := rows 1000 0 (sI z 36 3 (nI 0)) (by omega) (by omega) hl ⟨by simp [sI, rowsW], fun w t h => by simp [rowsW] at h⟩
  have F0 : frW z (sI z 36 3 (nI 0)) := ⟨fun _ _ _ _ => rfl, fun q k h => by simp [sI, h], rfl⟩
  exact ⟨z2, e2, R2, frW_tr F0 F2⟩
theorem X4_line {g : Nat → Nat} {a p : Nat} (hb : a + 6 * p < 49) (hg : ∀ c, c < 49 → g c ≤ 26) {L : List (Nat × Nat × Nat)} (hL : L.length ≤ 26) : ∀ (f k : Nat) (z : zV), k ≤ 8 → 8 - k < f → (∀ c, c < 49 → z.2.1 1 c = eM (g c)) → RV z (L ++ (lnW g a p k).2) → ∃ z', l_X4_findsInLine_5 f z (nI a) (nI p) (nI (lnW g a p k).1) (nI k) = some z' ∧ RV z' (L ++ (lnW g a p 8).2) ∧ frV z z' := by
  intro f
  induction f with
  | zero => intro k z _ h; omega
  | succ f ih =>
    intro k z hk hf hl hR
    obtain ⟨h1, h2, h3, -, -⟩ := lnW_spec g a p k hk
    rw [l_X4_findsInLine_5]
    by_cases e : k = 8
    · subst e
      rw [iflt_t (by omega) (by omega)]
      exact ⟨z, rfl, hR, frV_rf z⟩
    · rw [iflt_f (by omega) (by omega)]
      have hj : ∀ (hc : ¬ (k < 7 ∧ g (a + k * p) ≠ 0)), ∃ z', j_X4_findsInLine_42 (l_X4_findsInLine_5 f) z (nI a) (nI p) (nI (lnW g a p k).1) (nI k) = some z' ∧ RV z' (L ++ (lnW g a p 8).2) ∧ frV z z' := by
        intro hc
        rw [j_X4_findsInLine_42]
        by_cases r : 2 ≤ (lnW g a p k).1
        · have hlen : (L ++ (lnW g a p k).2).length < 42 := by rw [List.length_append]; omega
          obtain ⟨e0, R0⟩ := hR
          generalize hLL : L ++ (lnW g a p k).2 = LL at hlen e0 R0
          rw [ifle_f (by omega) (by omega), pk_sub h1, pk_mul, nI_add, nI_add, e0, wS_in hlen (by omega)]
          have e2 : (sA z 5 LL.length (nI (a + p * (k - (lnW g a p k).1)))).1 0 9 = nI LL.length := e0
          rw [e2, wS_in hlen (by omega)]
          have e3 : (sA (sA z 5 LL.length (nI (a + p * (k - (lnW g a p k).1)))) 6 LL.length (nI (lnW g a p k).1)).1 0 9 = nI LL.length := e0
          rw [e3, wS_in hlen (by omega)]
          have e4 : (sA (sA (sA z 5 LL.length (nI (a + p * (k - (lnW g a p k).1)))) 6 LL.length (nI (lnW g a p k).1)) 7 LL.length (nI p)).1 0 9 = nI LL.length := e0
          rw [e4, pS_eq, nI_add]
          have F1 : frV z (sI (sA (sA (sA z 5 LL.length (nI (a + p * (k - (lnW g a p k).1)))) 6 LL.length (nI (lnW g a p k).1)) 7 LL.length (nI p)) 0 9 (nI (LL.length + 1))) := by
            refine ⟨fun q h1 h2 h3 => ?_, fun q k h => ?_⟩
            · funext j
              simp [sI, sA, h1, h2, h3]
            · simp [sI, sA, h]
          have R1 : RV (sI (sA (sA (sA z 5 LL.length (nI (a + p * (k - (lnW g a p k).1)))) 6 LL.length (nI (lnW g a p k).1)) 7 LL.length (nI p)) 0 9 (nI (LL.length + 1))) (LL ++ [(a + (k - (lnW g a p k).1) * p, (lnW g a p k).1, p)]) := by
            refine ⟨by simp [sI], fun w t hw => ?_⟩
            rcases ap_get hw with ⟨h1, h2⟩ | ⟨h1, h2⟩
            · have := R0 w t h2
              have hne : w ≠ LL.length := by omega
              simp [sI, sA, hne, this]
            · subst h2
              subst h1
              simp [sI, sA, Nat.mul_comm]
          have ihk := ih (k + 1) _ (by omega) (by omega) (fun c hc2 => by rw [F1.1 1 (by omega) (by omega) (by omega)]; exact hl c hc2)
          rw [lnW_n hc, if_pos r] at ihk
          obtain ⟨z2, e2, R2, F2⟩ := ihk (by rw [← List.append_assoc, hLL]; exact R1)
          exact ⟨z2, e2, R2, frV_tr F1 F2⟩
        · rw [ifle_t (by omega) (by omega), nI_add]
          have ihk := ih (k + 1) z (by omega) (by omega) hl
          rw [lnW_n hc, if_neg r] at ihk
          exact ihk hR
      by_cases c7 : k < 7
      · have hm : p * k ≤ 6 * p := by rw [Nat.mul_comm]; exact Nat.mul_le_mul_right p (by omega)
        rw [ifle_f c7 (by omega), pk_mul, nI_add, nI_add, Nat.zero_add, rA_in (by omega) (by omega), hl _ (by omega), ifem0 (hg _ (by omega)), Nat.mul_comm p k]
        by_cases q : g (a + k * p) = 0
        · rw [if_pos q]
          exact hj (fun x => x.2 q)
        · rw [if_neg q, nI_add, nI_add]
          have ihk := ih (k + 1) z (by omega) (by omega) hl
          rw [lnW_y c7 q] at ihk
          exact ihk hR
      · rw [ifle_t (by omega) (by omega)]
        exact hj (fun x => c7 x.1)
theorem X4_findsInLine {g : Nat → Nat} {a p : Nat} (hb : a + 6 * p < 49) (hg : ∀ c, c < 49 → g c ≤ 26) {L : List (Nat × Nat × Nat)} (hL : L.length ≤ 26) {z : zV} (hl : ∀ c, c < 49 → z.2.1 1 c = eM (g c)) (R : RV z L) : ∃ z', f_X4_findsInLine z (nI a) (nI p) = some z' ∧ RV z' (L ++ (lnW g a p 8).2) ∧ frV z z' := by
  rw [f_X4_findsInLine]
  exact X4_line hb hg hL 1000 0 z (by omega) (by omega) hl (by rw [lnW, List.append_nil]; exact R)
theorem X4_findsWords {g : Nat → Nat} (hg : ∀ c, c < 49 → g c ≤ 26) {z : zV} (hl : ∀ c, c < 49 → z.2.1 1 c = eM (g c)) : ∃ z', f_X4_findsWords z = some z' ∧ RV z' (wl g) ∧ frV z z' := by
  have cols : ∀ (f c : Nat) (z : zV), c ≤ 7 → 7 - c < f → (∀ c, c < 49 → z.2.1 1 c = eM (g c)) → RV z (colsW g c) → ∃ z', l_X4_findsWords_30 f z (nI c) = some z' ∧ RV z' (wl g) ∧ frV z z' := by
    intro f
    induction f with
    | zero => intro c z _ h; omega
    | succ f ih =>
      intro c z hc hf hl hR
      rw [l_X4_findsWords_30]
      by_cases e : c = 7
      · subst e
        rw [ifle_t (by omega) (by omega)]
        exact ⟨z, rfl, hR, frV_rf z⟩
      · obtain ⟨z1, e1, R1, F1⟩ := X4_findsInLine (a := c) (p := 7) (by omega) hg (by have := (colsW_spec g c hc).1; omega) hl hR
        rw [ifle_f (by omega) (by omega), e1, ob_eq, nI_add]
        obtain ⟨z2, e2, R2, F2⟩ := ih (c + 1) z1 (by omega) (by omega) (fun c hc2 => by rw [F1.1 1 (by omega) (by omega) (by omega)]; exact hl c hc2) R1
        exact ⟨z2, e2, R2, frV_tr F1 F2⟩
  have rows : ∀ (f r : Nat) (z : zV), r ≤ 7 → 7 - r < f → (∀ c, c < 49 → z.2.1 1 c = eM (g c)) → RV z (rowsW g r) → ∃ z', l_X4_findsWords_7 f z (nI r) = some z' ∧ RV z' (wl g) ∧ frV z z' := by
    intro f
    induction f with
    | zero => intro c z _ h; omega
    | succ f ih =>
      intro r z hc hf hl hR
      rw [l_X4_findsWords_7]
      by_cases e : r = 7
      · subst e
        rw [ifle_t (by omega) (by omega)]
        exact cols 1000 0 z (by omega) (by omega) hl hR
      · obtain ⟨z1, e1, R1, F1⟩ := X4_findsInLine (a := r * 7) (p := 1) (by omega) hg (by have := (rowsW_spec g r hc).1; omega) hl hR
        rw [ifle_f (by omega) (by omega), pk_mul, Nat.mul_comm 7 r, e1, ob_eq, nI_add]
        obtain ⟨z2, e2, R2, F2⟩ := ih (r + 1) z1 (by omega) (by omega) (fun c hc2 => by rw [F1.1 1 (by omega) (by omega) (by omega)]; exact hl c hc2) R1
        exact ⟨z2, e2, R2, frV_tr F1 F2⟩
  rw [f_X4_findsWords, pS_eq]
  obtain ⟨z2, e2, R2, F2⟩ := rows 1000 0 (sI z 0 9 (nI 0)) (by omega) (by omega) hl ⟨by simp [sI, rowsW], fun w t h => by simp [rowsW] at h⟩
  have F0 : frV z (sI z 0 9 (nI 0)) := ⟨fun _ _ _ _ => rfl, fun q k h => by simp [sI, h]⟩
  exact ⟨z2, e2, R2, frV_tr F0 F2⟩
