/-! THE STATE as whole numbers: the grid (0 black, else the letter's place 1 .. 26), the guesses of numbers, what is fixed, the scalars (0 factor, 1 shift, 2 coins, 3 bought, 4 checks, 5 how many are listed), the list (place 0 the length, then the letters) -/
abbrev aS : Type := (Nat → Nat) × (Nat → Nat) × (Nat → Nat) × (Nat → Nat) × (Nat → Nat → Nat)
def ec (k : Nat) : Nat := if k = 0 then 0 else 96 + k
def eM (k : Nat) : Int32 := if k = 0 then -1 else nI (k - 1)
theorem ec_le {k : Nat} (h : k ≤ 26) : ec k ≤ 122 := by unfold ec; split <;> omega
theorem ec_pos {k : Nat} (h : k ≠ 0) : ec k = 96 + k := if_neg h
theorem ec_inj {a b : Nat} (h : ec a = ec b) : a = b := by unfold ec at h; split at h <;> split at h <;> omega
theorem ec_eq0 {a : Nat} (h : ec a = 0) : a = 0 := by unfold ec at h; split at h <;> omega
theorem ifec {α : Sort _} {a b : Nat} {x y : α} (ha : a ≤ 26) (hb : b ≤ 26) : (if nI (ec a) = nI (ec b) then x else y) = (if a = b then x else y) := by
  have h1 := ec_le ha
  have h2 := ec_le hb
  by_cases h : a = b
  · subst h; simp
  · rw [if_neg h, ifeq_f (fun q => h (ec_inj q)) (by omega) (by omega)]
theorem ifec0 {α : Sort _} {a : Nat} {x y : α} (ha : a ≤ 26) : (if nI (ec a) = nI 0 then x else y) = (if a = 0 then x else y) := ifec (b := 0) ha (by omega)
theorem eM_0 : eM 0 = -1 := rfl
theorem eM_pos {k : Nat} (h : k ≠ 0) : eM k = nI (k - 1) := if_neg h
theorem eM_ne {k : Nat} (h : k ≠ 0) (hk : k ≤ 26) : eM k ≠ -1 := by
  rw [eM_pos h]
  exact nI_neM (by omega) (by decide)
theorem eM_inj {a b : Nat} (ha : a ≤ 26) (hb : b ≤ 26) (h : eM a = eM b) : a = b := by
  by_cases h1 : a = 0
  · by_cases h2 : b = 0
    · omega
    · subst h1
      exact absurd h.symm (eM_ne h2 hb)
  · by_cases h2 : b = 0
    · subst h2
      exact absurd h (eM_ne h1 ha)
    · rw [eM_pos h1, eM_pos h2, nI_eq (by omega) (by omega)] at h
      omega
theorem ifem {α : Sort _} {a b : Nat} {x y : α} (ha : a ≤ 26) (hb : b ≤ 26) : (if eM a = eM b then x else y) = (if a = b then x else y) := by
  by_cases h : a = b
  · subst h; simp
  · rw [if_neg h, if_neg (fun q => h (eM_inj ha hb q))]
theorem ifem0 {α : Sort _} {a : Nat} {x y : α} (ha : a ≤ 26) : (if eM a = -1 then x else y) = (if a = 0 then x else y) := ifem (b := 0) ha (by omega)
def num (sc : Nat → Nat) (l : Nat) : Nat := (sc 0 * (l - 1) + sc 1) % 26 + 1
theorem num_in (sc : Nat → Nat) (l : Nat) : 1 ≤ num sc l ∧ num sc l ≤ 26 := by unfold num; omega
def okK (f s : Nat) : Prop := f < 26 ∧ f % 2 = 1 ∧ f ≠ 13 ∧ s < 26
theorem okK_12 {f s : Nat} (h : okK f s) : f = 1 ∨ f = 3 ∨ f = 5 ∨ f = 7 ∨ f = 9 ∨ f = 11 ∨ f = 15 ∨ f = 17 ∨ f = 19 ∨ f = 21 ∨ f = 23 ∨ f = 25 := by
  unfold okK at h
  omega
theorem num_inj {sc : Nat → Nat} (h : okK (sc 0) (sc 1)) {a b : Nat} (ha : 1 ≤ a) (ha2 : a ≤ 26) (hb : 1 ≤ b) (hb2 : b ≤ 26) (e : num sc a = num sc b) : a = b := by
  have h2 := h.2.2.2
  unfold num at e
  rcases okK_12 h with q | q | q | q | q | q | q | q | q | q | q | q <;> rw [q] at e <;> omega
theorem num_surj {sc : Nat → Nat} (h : okK (sc 0) (sc 1)) {n : Nat} (hn : 1 ≤ n) (hn2 : n ≤ 26) : ∃ l, 1 ≤ l ∧ l ≤ 26 ∧ num sc l = n := by
  have h2 := h.2.2.2
  unfold num
  rcases okK_12 h with q | q | q | q | q | q | q | q | q | q | q | q <;> rw [q]
  · exact ⟨(1 * (n + 25 + (26 - sc 1))) % 26 + 1, by omega, by omega, by omega⟩
  · exact ⟨(9 * (n + 25 + (26 - sc 1))) % 26 + 1, by omega, by omega, by omega⟩
  · exact ⟨(21 * (n + 25 + (26 - sc 1))) % 26 + 1, by omega, by omega, by omega⟩
  · exact ⟨(15 * (n + 25 + (26 - sc 1))) % 26 + 1, by omega, by omega, by omega⟩
  · exact ⟨(3 * (n + 25 + (26 - sc 1))) % 26 + 1, by omega, by omega, by omega⟩
  · exact ⟨(19 * (n + 25 + (26 - sc 1))) % 26 + 1, by omega, by omega, by omega⟩
  · exact ⟨(7 * (n + 25 + (26 - sc 1))) % 26 + 1, by omega, by omega, by omega⟩
  · exact ⟨(23 * (n + 25 + (26 - sc 1))) % 26 + 1, by omega, by omega, by omega⟩
  · exact ⟨(11 * (n + 25 + (26 - sc 1))) % 26 + 1, by omega, by omega, by omega⟩
  · exact ⟨(5 * (n + 25 + (26 - sc 1))) % 26 + 1, by omega, by omega, by omega⟩
  · exact ⟨(17 * (n + 25 + (26 - sc 1))) % 26 + 1, by omega, by omega, by omega⟩
  · exact ⟨(25 * (n + 25 + (26 - sc 1))) % 26 + 1, by omega, by omega, by omega⟩
def nAt (S : aS) (c : Nat) : Nat := if S.1 c = 0 then 0 else num S.2.2.2.1 (S.1 c)
def gAt (S : aS) (c : Nat) : Nat := if S.1 c = 0 then 0 else S.2.1 (nAt S c)
def Iv (S : aS) : Prop := (∀ c, c < 49 → S.1 c ≤ 26) ∧ okK (S.2.2.2.1 0) (S.2.2.2.1 1) ∧ (∀ n, 1 ≤ n → n ≤ 26 → S.2.1 n ≤ 26) ∧ (∀ n m, 1 ≤ n → n ≤ 26 → 1 ≤ m → m ≤ 26 → S.2.1 n = S.2.1 m → S.2.1 n ≠ 0 → n = m) ∧ (∀ n, 1 ≤ n → n ≤ 26 → S.2.2.1 n ≤ 1) ∧ S.2.2.2.1 2 ≤ 999 ∧ S.2.2.2.1 5 ≤ 12 ∧ (∀ i, i < S.2.2.2.1 5 → 2 ≤ S.2.2.2.2 i 0 ∧ S.2.2.2.2 i 0 ≤ 7 ∧ ∀ j, j < S.2.2.2.2 i 0 → 1 ≤ S.2.2.2.2 i (j + 1) ∧ S.2.2.2.2 i (j + 1) ≤ 26)
def RC (z : zV) (q : Nat) (S : aS) : Prop := (∀ c, c < 49 → z.2.1 (q + 1) c = nI (ec (S.1 c))) ∧ (∀ n, 1 ≤ n → n ≤ 26 → z.2.1 (q + 2) n = nI (ec (S.2.1 n))) ∧ (∀ n, 1 ≤ n → n ≤ 26 → z.2.1 (q + 3) n = nI (S.2.2.1 n)) ∧ (∀ i, i < S.2.2.2.1 5 → z.2.1 (q + 5) i = nI (S.2.2.2.2 i 0)) ∧ (∀ i j, i < S.2.2.2.1 5 → j < S.2.2.2.2 i 0 → z.2.1 (q + 4) (i * 7 + j) = nI (ec (S.2.2.2.2 i (j + 1)))) ∧ z.1 q 5 = nI (S.2.2.2.1 5) ∧ z.1 q 6 = nI (S.2.2.2.1 0) ∧ z.1 q 7 = nI (S.2.2.2.1 1) ∧ z.1 q 8 = nI (S.2.2.2.1 2) ∧ z.1 q 9 = nI (S.2.2.2.1 3) ∧ z.1 q 10 = nI (S.2.2.2.1 4)
def RC0 (z : zV) (S : aS) : Prop := (∀ c, c < 49 → z.2.1 1 c = nI (ec (S.1 c))) ∧ (∀ n, 1 ≤ n → n ≤ 26 → z.2.1 2 n = nI (ec (S.2.1 n))) ∧ (∀ n, 1 ≤ n → n ≤ 26 → z.2.1 3 n = nI (S.2.2.1 n)) ∧ (∀ i, i < S.2.2.2.1 5 → z.2.1 5 i = nI (S.2.2.2.2 i 0)) ∧ (∀ i j, i < S.2.2.2.1 5 → j < S.2.2.2.2 i 0 → z.2.1 4 (i * 7 + j) = nI (ec (S.2.2.2.2 i (j + 1)))) ∧ z.1 0 5 = nI (S.2.2.2.1 5) ∧ z.1 0 6 = nI (S.2.2.2.1 0) ∧ z.1 0 7 = nI (S.2.2.2.1 1) ∧ z.1 0 8 = nI (S.2.2.2.1 2) ∧ z.1 0 9 = nI (S.2.2.2.1 3) ∧ z.1 0 10 = nI (S.2.2.2.1 4)
theorem RC_0 {z : zV} {S : aS} : RC z 0 S ↔ RC0 z S := Iff.rfl
/-- the model's block at the array q, from the place o on -/
def RM (m : zV) (q o : Nat) (S : aS) : Prop := (∀ c, c < 49 → m.2.1 q (o + c) = eM (S.1 c)) ∧ (∀ n, 1 ≤ n → n ≤ 26 → m.2.1 q (o + 51 + n) = eM (S.2.1 n)) ∧ (∀ n, 1 ≤ n → n ≤ 26 → m.2.1 q (o + 78 + n) = nI (S.2.2.1 n)) ∧ (∀ i, i < S.2.2.2.1 5 → m.2.1 q (o + 109 + 8 * i) = nI (S.2.2.2.2 i 0)) ∧ (∀ i j, i < S.2.2.2.1 5 → j < S.2.2.2.2 i 0 → m.2.1 q (o + 109 + 8 * i + 1 + j) = eM (S.2.2.2.2 i (j + 1))) ∧ m.2.1 q (o + 106) = nI (S.2.2.2.1 5) ∧ m.2.1 q (o + 49) = nI (S.2.2.2.1 0) ∧ m.2.1 q (o + 50) = nI (S.2.2.2.1 1) ∧ m.2.1 q (o + 105) = nI (S.2.2.2.1 2) ∧ m.2.1 q (o + 107) = nI (S.2.2.2.1 3) ∧ m.2.1 q (o + 108) = nI (S.2.2.2.1 4)
def RM0 (m : zV) (S : aS) : Prop := (∀ c, c < 49 → m.2.1 1 c = eM (S.1 c)) ∧ (∀ n, 1 ≤ n → n ≤ 26 → m.2.1 1 (51 + n) = eM (S.2.1 n)) ∧ (∀ n, 1 ≤ n → n ≤ 26 → m.2.1 1 (78 + n) = nI (S.2.2.1 n)) ∧ (∀ i, i < S.2.2.2.1 5 → m.2.1 1 (109 + 8 * i) = nI (S.2.2.2.2 i 0)) ∧ (∀ i j, i < S.2.2.2.1 5 → j < S.2.2.2.2 i 0 → m.2.1 1 (109 + 8 * i + 1 + j) = eM (S.2.2.2.2 i (j + 1))) ∧ m.2.1 1 106 = nI (S.2.2.2.1 5) ∧ m.2.1 1 49 = nI (S.2.2.2.1 0) ∧ m.2.1 1 50 = nI (S.2.2.2.1 1) ∧ m.2.1 1 105 = nI (S.2.2.2.1 2) ∧ m.2.1 1 107 = nI (S.2.2.2.1 3) ∧ m.2.1 1 108 = nI (S.2.2.2.1 4)
theorem RM_0 {m : zV} {S : aS} : RM m 1 0 S ↔ RM0 m S := by
  unfold RM RM0
  simp only [Nat.zero_add]
theorem nAt_le (S : aS) (c : Nat) : nAt S c ≤ 26 := by
  unfold nAt
  split
  · omega
  · exact (num_in _ _).2
theorem nAt_0 {S : aS} {c : Nat} (h : S.1 c = 0) : nAt S c = 0 := if_pos h
theorem nAt_n {S : aS} {c : Nat} (h : S.1 c ≠ 0) : nAt S c = num S.2.2.2.1 (S.1 c) := if_neg h
theorem nAt_pos {S : aS} {c : Nat} (h : S.1 c ≠ 0) : 1 ≤ nAt S c := by rw [nAt_n h]; exact (num_in _ _).1
theorem nAt_z {S : aS} {c : Nat} (h : nAt S c = 0) : S.1 c = 0 := by
  by_cases q : S.1 c = 0
  · exact q
  · have := nAt_pos q
    omega
theorem gAt_0 {S : aS} {c : Nat} (h : S.1 c = 0) : gAt S c = 0 := if_pos h
theorem gAt_n {S : aS} {c : Nat} (h : S.1 c ≠ 0) : gAt S c = S.2.1 (nAt S c) := if_neg h
theorem gAt_le {S : aS} (I : Iv S) (c : Nat) : gAt S c ≤ 26 := by
  by_cases h : S.1 c = 0
  · rw [gAt_0 h]; omega
  · rw [gAt_n h]
    exact I.2.2.1 _ (nAt_pos h) (nAt_le S c)
/-- same numbers, same letters -/
theorem nAt_inj {S : aS} (I : Iv S) {a b : Nat} (ha : a < 49) (hb : b < 49) : nAt S a = nAt S b ↔ S.1 a = S.1 b := by
  constructor
  · intro e
    by_cases h1 : S.1 a = 0
    · rw [nAt_0 h1] at e
      rw [h1, nAt_z e.symm]
    · by_cases h2 : S.1 b = 0
      · rw [nAt_0 h2] at e
        exact absurd (nAt_z e) h1
      · rw [nAt_n h1, nAt_n h2] at e
        exact num_inj I.2.1 (by omega) (I.1 a ha) (by omega) (I.1 b hb) e
  · intro e
    unfold nAt
    rw [e]
def ngA (S : aS) (l : Nat) : Nat := if l = 0 then 0 else (if fst1 (fun k => S.2.1 (k + 1) == l) 26 < 26 then fst1 (fun k => S.2.1 (k + 1) == l) 26 + 1 else 0)
def otherG (S : aS) (l n : Nat) : Bool := anyB (fun k => S.2.1 (k + 1) == l && !(k + 1 == n)) 26
theorem ngA_le (S : aS) (l : Nat) : ngA S l ≤ 26 := by
  have := fst1_le (fun k => S.2.1 (k + 1) == l) 26
  unfold ngA
  split
  · omega
  · split <;> omega
theorem ngA_of {S : aS} (I : Iv S) {n l : Nat} (h1 : 1 ≤ n) (h2 : n ≤ 26) (hl : l ≠ 0) (e : S.2.1 n = l) : ngA S l = n := by
  unfold ngA
  rw [if_neg hl]
  have hlt : fst1 (fun k => S.2.1 (k + 1) == l) 26 < 26 := by
    rcases Nat.lt_or_ge (fst1 (fun k => S.2.1 (k + 1) == l) 26) 26 with q | q
    · exact q
    · have := fst1_no (p := fun k => S.2.1 (k + 1) == l) (n := 26) (k := n - 1) (by omega)
      rw [show n - 1 + 1 = n by omega] at this
      simp [e] at this
  rw [if_pos hlt]
  have hy := fst1_yes hlt
  simp only [beq_iff_eq] at hy
  exact I.2.2.2.1 _ _ (by omega) (by omega) h1 h2 (by rw [hy, e]) (by rw [hy]; exact hl)
theorem ngA_0 {S : aS} {l : Nat} (h : ∀ n, 1 ≤ n → n ≤ 26 → S.2.1 n ≠ l) : ngA S l = 0 := by
  unfold ngA
  split
  · rfl
  · rw [if_neg]
    intro q
    have hy := fst1_yes q
    simp only [beq_iff_eq] at hy
    exact h _ (by omega) (by omega) hy
theorem ngA_cases {S : aS} (I : Iv S) {l : Nat} (hl : l ≠ 0) : (∃ n, 1 ≤ n ∧ n ≤ 26 ∧ S.2.1 n = l ∧ ngA S l = n) ∨ ((∀ n, 1 ≤ n → n ≤ 26 → S.2.1 n ≠ l) ∧ ngA S l = 0) := by
  by_cases h : ∃ n, 1 ≤ n ∧ n ≤ 26 ∧ S.2.1 n = l
  · obtain ⟨n, h1, h2, h3⟩ := h
    exact Or.inl ⟨n, h1, h2, h3, ngA_of I h1 h2 hl h3⟩
  · have h' : ∀ n, 1 ≤ n → n ≤ 26 → S.2.1 n ≠ l := fun n h1 h2 h3 => h ⟨n, h1, h2, h3⟩
    exact Or.inr ⟨h', ngA_0 h'⟩
theorem otherG_ngA {S : aS} (I : Iv S) {l n : Nat} (hl : l ≠ 0) : otherG S l n = (!(ngA S l == 0) && !(ngA S l == n)) := by
  rcases ngA_cases I hl with ⟨k, h1, h2, h3, e⟩ | ⟨h', e⟩
  · rw [e]
    by_cases hn : k = n
    · subst hn
      rw [otherG, anyB_f]
      · simp
      · intro j hj
        by_cases q : S.2.1 (j + 1) = l
        · have := I.2.2.2.1 _ _ (by omega) (by omega) h1 h2 (q.trans h3.symm) (by rw [q]; exact hl)
          simp [this]
        · simp [q]
    · rw [otherG, anyB_t (k := k - 1) (by omega)]
      · simp [hn]; omega
      · rw [show k - 1 + 1 = k by omega]
        simp [h3, hn]
  · rw [e, otherG, anyB_f]
    · simp
    · intro j hj
      simp [h' (j + 1) (by omega) (by omega)]
def cw (S : aS) (n : Nat) : Nat := cn (fun c => nAt S c == n) 49
def pr (S : aS) (n : Nat) : Nat := if 1 + cw S n < 9 then 1 + cw S n else 9
theorem cw_le (S : aS) (n : Nat) : cw S n ≤ 49 := cn_le _ _
theorem pr_le (S : aS) (n : Nat) : pr S n ≤ 9 := by unfold pr; split <;> omega
