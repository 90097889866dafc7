/-! THE PICTURES: roles 0, 6, .. 30 are the six states (0 the state, 6 .. 24 the history's, 30 the snapshot), each with its five arrays behind it; 36 the words, 40 the text, 42 the object, 43 the history -/
def shC : zSh := fun X j I A P =>
  if j < 36 then
    (if j % 6 = 0 then .inr (0, [.ref (X.1 (j + 1)), .ref (X.1 (j + 2)), .ref (X.1 (j + 3)), .ref (X.1 (j + 4)), .ref (X.1 (j + 5)), .int (I 5), .int (I 6), .int (I 7), .int (I 8), .int (I 9), .int (I 10)])
     else if j % 6 = 1 then .inl (X.2.1, 49, .inl A)
     else if j % 6 = 2 then .inl (X.2.1, 27, .inl A)
     else if j % 6 = 3 then .inl (X.2.2.1, 27, .inl A)
     else if j % 6 = 4 then .inl (X.2.1, 84, .inl A)
     else .inl (X.2.1, 12, .inl A))
  else if j = 36 then .inr (2, [.ref (X.1 37), .ref (X.1 38), .ref (X.1 39), .int (I 3)])
  else if j < 40 then .inl (X.2.1, 28, .inl A)
  else if j = 40 then .inr (1, [.ref (X.1 41), .int (I 1)])
  else if j = 41 then .inl (X.2.1, 60, .inl A)
  else if j = 42 then .inr (3, [.ref (X.1 0), .ref (X.1 36), .ref (X.1 40), .ref (X.1 43), .ref (X.1 30), .int (I 5), .int (I 6)])
  else .inl (X.2.2.2, 4, .inr (.inr (.inr (.inr (fun b => some (X.1 (P b)))))))
def shM : zSh := fun X j I A P =>
  if j = 0 then .inr (4, [.ref (X.1 1), .ref (X.1 2), .ref (X.1 3), .int (I 3), .ref (X.1 4), .int (I 5), .ref (X.1 5), .ref (X.1 6), .ref (X.1 7), .int (I 9), .ref (X.1 8), .int (I 11)])
  else if j = 3 then .inl (X.2.1, 820, .inl A)
  else if j < 5 then .inl (X.2.1, 205, .inl A)
  else if j < 8 then .inl (X.2.1, 42, .inl A)
  else .inl (X.2.1, 60, .inl A)
theorem cC_0 (X : zE) (z : zV) : zc shC X z 0 = .inr (0, [.ref (X.1 1), .ref (X.1 2), .ref (X.1 3), .ref (X.1 4), .ref (X.1 5), .int (z.1 0 5), .int (z.1 0 6), .int (z.1 0 7), .int (z.1 0 8), .int (z.1 0 9), .int (z.1 0 10)]) := rfl
theorem cC_1 (X : zE) (z : zV) : zc shC X z 1 = .inl (X.2.1, 49, .inl (z.2.1 1)) := rfl
theorem cC_2 (X : zE) (z : zV) : zc shC X z 2 = .inl (X.2.1, 27, .inl (z.2.1 2)) := rfl
theorem cC_3 (X : zE) (z : zV) : zc shC X z 3 = .inl (X.2.2.1, 27, .inl (z.2.1 3)) := rfl
theorem cC_4 (X : zE) (z : zV) : zc shC X z 4 = .inl (X.2.1, 84, .inl (z.2.1 4)) := rfl
theorem cC_5 (X : zE) (z : zV) : zc shC X z 5 = .inl (X.2.1, 12, .inl (z.2.1 5)) := rfl
theorem cC_30 (X : zE) (z : zV) : zc shC X z 30 = .inr (0, [.ref (X.1 31), .ref (X.1 32), .ref (X.1 33), .ref (X.1 34), .ref (X.1 35), .int (z.1 30 5), .int (z.1 30 6), .int (z.1 30 7), .int (z.1 30 8), .int (z.1 30 9), .int (z.1 30 10)]) := rfl
theorem cC_36 (X : zE) (z : zV) : zc shC X z 36 = .inr (2, [.ref (X.1 37), .ref (X.1 38), .ref (X.1 39), .int (z.1 36 3)]) := rfl
theorem cC_37 (X : zE) (z : zV) : zc shC X z 37 = .inl (X.2.1, 28, .inl (z.2.1 37)) := rfl
theorem cC_38 (X : zE) (z : zV) : zc shC X z 38 = .inl (X.2.1, 28, .inl (z.2.1 38)) := rfl
theorem cC_39 (X : zE) (z : zV) : zc shC X z 39 = .inl (X.2.1, 28, .inl (z.2.1 39)) := rfl
theorem cC_40 (X : zE) (z : zV) : zc shC X z 40 = .inr (1, [.ref (X.1 41), .int (z.1 40 1)]) := rfl
theorem cC_41 (X : zE) (z : zV) : zc shC X z 41 = .inl (X.2.1, 60, .inl (z.2.1 41)) := rfl
theorem cC_42 (X : zE) (z : zV) : zc shC X z 42 = .inr (3, [.ref (X.1 0), .ref (X.1 36), .ref (X.1 40), .ref (X.1 43), .ref (X.1 30), .int (z.1 42 5), .int (z.1 42 6)]) := rfl
theorem cC_43 (X : zE) (z : zV) : zc shC X z 43 = .inl (X.2.2.2, 4, .inr (.inr (.inr (.inr (fun b => some (X.1 (z.2.2 b))))))) := rfl
theorem cM_0 (X : zE) (z : zV) : zc shM X z 0 = .inr (4, [.ref (X.1 1), .ref (X.1 2), .ref (X.1 3), .int (z.1 0 3), .ref (X.1 4), .int (z.1 0 5), .ref (X.1 5), .ref (X.1 6), .ref (X.1 7), .int (z.1 0 9), .ref (X.1 8), .int (z.1 0 11)]) := rfl
theorem cM_1 (X : zE) (z : zV) : zc shM X z 1 = .inl (X.2.1, 205, .inl (z.2.1 1)) := rfl
theorem cM_2 (X : zE) (z : zV) : zc shM X z 2 = .inl (X.2.1, 205, .inl (z.2.1 2)) := rfl
theorem cM_3 (X : zE) (z : zV) : zc shM X z 3 = .inl (X.2.1, 820, .inl (z.2.1 3)) := rfl
theorem cM_4 (X : zE) (z : zV) : zc shM X z 4 = .inl (X.2.1, 205, .inl (z.2.1 4)) := rfl
theorem cM_5 (X : zE) (z : zV) : zc shM X z 5 = .inl (X.2.1, 42, .inl (z.2.1 5)) := rfl
theorem cM_6 (X : zE) (z : zV) : zc shM X z 6 = .inl (X.2.1, 42, .inl (z.2.1 6)) := rfl
theorem cM_7 (X : zE) (z : zV) : zc shM X z 7 = .inl (X.2.1, 42, .inl (z.2.1 7)) := rfl
theorem cM_8 (X : zE) (z : zV) : zc shM X z 8 = .inl (X.2.1, 60, .inl (z.2.1 8)) := rfl
/-! a state whose role is a variable -/
theorem sV_0 {a : Nat} (h : isSt a) (X : zE) (I A : Nat → Int32) (P : Nat → Nat) : shC X a I A P = .inr (0, [.ref (X.1 (a + 1)), .ref (X.1 (a + 2)), .ref (X.1 (a + 3)), .ref (X.1 (a + 4)), .ref (X.1 (a + 5)), .int (I 5), .int (I 6), .int (I 7), .int (I 8), .int (I 9), .int (I 10)]) := by
  unfold shC
  rw [if_pos h.2, if_pos h.1]
theorem cV_0 {a : Nat} (h : isSt a) (X : zE) (z : zV) : zc shC X z a = .inr (0, [.ref (X.1 (a + 1)), .ref (X.1 (a + 2)), .ref (X.1 (a + 3)), .ref (X.1 (a + 4)), .ref (X.1 (a + 5)), .int (z.1 a 5), .int (z.1 a 6), .int (z.1 a 7), .int (z.1 a 8), .int (z.1 a 9), .int (z.1 a 10)]) := sV_0 h X _ _ _
theorem sV_1 {a : Nat} (h : isSt a) (X : zE) (I A : Nat → Int32) (P : Nat → Nat) : shC X (a + 1) I A P = .inl (X.2.1, 49, .inl A) := by
  obtain ⟨h1, h2⟩ := h
  unfold shC
  rw [if_pos (by omega), if_neg (by omega), if_pos (by omega)]
theorem cV_1 {a : Nat} (h : isSt a) (X : zE) (z : zV) : zc shC X z (a + 1) = .inl (X.2.1, 49, .inl (z.2.1 (a + 1))) := sV_1 h X _ _ _
theorem sV_2 {a : Nat} (h : isSt a) (X : zE) (I A : Nat → Int32) (P : Nat → Nat) : shC X (a + 2) I A P = .inl (X.2.1, 27, .inl A) := by
  obtain ⟨h1, h2⟩ := h
  unfold shC
  rw [if_pos (by omega), if_neg (by omega), if_neg (by omega), if_pos (by omega)]
theorem cV_2 {a : Nat} (h : isSt a) (X : zE) (z : zV) : zc shC X z (a + 2) = .inl (X.2.1, 27, .inl (z.2.1 (a + 2))) := sV_2 h X _ _ _
theorem sV_3 {a : Nat} (h : isSt a) (X : zE) (I A : Nat → Int32) (P : Nat → Nat) : shC X (a + 3) I A P = .inl (X.2.2.1, 27, .inl A) := by
  obtain ⟨h1, h2⟩ := h
  unfold shC
  rw [if_pos (by omega), if_neg (by omega), if_neg (by omega), if_neg (by omega), if_pos (by omega)]
theorem cV_3 {a : Nat} (h : isSt a) (X : zE) (z : zV) : zc shC X z (a + 3) = .inl (X.2.2.1, 27, .inl (z.2.1 (a + 3))) := sV_3 h X _ _ _
theorem sV_4 {a : Nat} (h : isSt a) (X : zE) (I A : Nat → Int32) (P : Nat → Nat) : shC X (a + 4) I A P = .inl (X.2.1, 84, .inl A) := by
  obtain ⟨h1, h2⟩ := h
  unfold shC
  rw [if_pos (by omega), if_neg (by omega), if_neg (by omega), if_neg (by omega), if_neg (by omega), if_pos (by omega)]
theorem cV_4 {a : Nat} (h : isSt a) (X : zE) (z : zV) : zc shC X z (a + 4) = .inl (X.2.1, 84, .inl (z.2.1 (a + 4))) := sV_4 h X _ _ _
theorem sV_5 {a : Nat} (h : isSt a) (X : zE) (I A : Nat → Int32) (P : Nat → Nat) : shC X (a + 5) I A P = .inl (X.2.1, 12, .inl A) := by
  obtain ⟨h1, h2⟩ := h
  unfold shC
  rw [if_pos (by omega), if_neg (by omega), if_neg (by omega), if_neg (by omega), if_neg (by omega), if_neg (by omega)]
theorem cV_5 {a : Nat} (h : isSt a) (X : zE) (z : zV) : zc shC X z (a + 5) = .inl (X.2.1, 12, .inl (z.2.1 (a + 5))) := sV_5 h X _ _ _
theorem isSt_44 {a k : Nat} (h : isSt a) (hk : k < 6) : a + k < 44 := by
  obtain ⟨h1, h2⟩ := h
  omega
theorem isSt_lt {a : Nat} (h : isSt a) : a < 44 := isSt_44 (k := 0) h (by omega)
theorem cC_sP (X : zE) (z : zV) (u : Nat) : ∀ j, ∀ k, k < 44 → zc shC X (sP z j u) k = if k = 43 then .inl (X.2.2.2, 4, .inr (.inr (.inr (.inr (va_up (fun b => some (X.1 (z.2.2 b))) j (some (X.1 u))))))) else zc shC X z k := by
  intro j k hk
  by_cases h : k = 43
  · subst h
    rw [if_pos rfl, cC_43]
    have e : (fun b => some (X.1 ((sP z j u).2.2 b))) = va_up (fun b => some (X.1 (z.2.2 b))) j (some (X.1 u)) := by
      funext b
      by_cases hb : b = j <;> simp [va_up, sP, hb]
    rw [e]
  · rw [if_neg h]
    unfold zc shC
    dsimp only [sP]
    by_cases a1 : k < 36
    · rw [if_pos a1, if_pos a1]
    · rw [if_neg a1, if_neg a1]
      by_cases a2 : k = 36
      · rw [if_pos a2, if_pos a2]
      · rw [if_neg a2, if_neg a2]
        by_cases a3 : k < 40
        · rw [if_pos a3, if_pos a3]
        · rw [if_neg a3, if_neg a3]
          by_cases a4 : k = 40
          · rw [if_pos a4, if_pos a4]
          · rw [if_neg a4, if_neg a4]
            by_cases a5 : k = 41
            · rw [if_pos a5, if_pos a5]
            · rw [if_neg a5, if_neg a5]
              have a6 : k = 42 := by omega
              rw [if_pos a6, if_pos a6]
