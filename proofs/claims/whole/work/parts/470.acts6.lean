/-! THE ACTS (6): dropWord -/
def dW (S : aS) (a : Nat) : aS := (S.1, S.2.1, S.2.2.1, upN S.2.2.2.1 5 (S.2.2.2.1 5 - 1), fun j => if j < a then S.2.2.2.2 j else S.2.2.2.2 (j + 1))
theorem dW_lo {S : aS} {a j : Nat} (h : j < a) : (dW S a).2.2.2.2 j = S.2.2.2.2 j := if_pos h
theorem dW_hi {S : aS} {a j : Nat} (h : a ≤ j) : (dW S a).2.2.2.2 j = S.2.2.2.2 (j + 1) := if_neg (by omega)
theorem Iv_dW {S : aS} {a : Nat} (I : Iv S) (ha : a < S.2.2.2.1 5) : Iv (dW S a) := by
  obtain ⟨i1, i2, i3, i4, i5, i6, i7, i8⟩ := I
  refine ⟨i1, i2, i3, i4, i5, i6, Nat.le_trans (Nat.sub_le _ _) i7, fun j hj => ?_⟩
  have hj' : j < S.2.2.2.1 5 - 1 := hj
  by_cases q : j < a
  · rw [dW_lo q]; exact i8 j (by omega)
  · rw [dW_hi (by omega)]; exact i8 (j + 1) (by omega)
theorem X0_removeListed {z : zV} {S : aS} (R : RC0 z S) (I : Iv S) {a : Nat} (ha : a < S.2.2.2.1 5) : ∃ z', f_X0_removeListed z (nI a) = some z' ∧ RC0 z' (dW S a) ∧ frC 0 z z' := by
  have h12 := I.2.2.2.2.2.2.1
  have hls := I.2.2.2.2.2.2.2
  obtain ⟨r1, r2, r3, r4, r5, r6, r7, r8, r9, r10, r11⟩ := R
  generalize hN : S.2.2.2.1 5 - 1 = N
  generalize hA : (fun (k x : Nat) => if a * 7 ≤ x ∧ x < k * 7 then z.2.1 4 (x + 7) else z.2.1 4 x) = A
  generalize hB : (fun (k x : Nat) => if a ≤ x ∧ x < k then z.2.1 5 (x + 1) else z.2.1 5 x) = B
  have A0 : A a = z.2.1 4 := by
    subst hA
    funext x
    exact if_neg (by omega)
  have B0 : B a = z.2.1 5 := by
    subst hB
    funext x
    exact if_neg (by omega)
  have AS : ∀ k, a ≤ k → va_cpy (A k) (A k) ((k + 1) * 7) (k * 7) 7 = A (k + 1) := fun k hk => by
    subst hA
    funext x
    by_cases q : k * 7 ≤ x ∧ x < k * 7 + 7
    · rw [pk_cpy_in q.1 q.2]
      show (if _ then _ else _) = (if _ then _ else _)
      rw [show (k + 1) * 7 + (x - k * 7) = x + 7 by omega, if_neg (by omega), if_pos (by omega)]
    · rw [pk_cpy_out (by omega)]
      show (if _ then _ else _) = (if _ then _ else _)
      by_cases q2 : a * 7 ≤ x ∧ x < k * 7
      · rw [if_pos q2, if_pos (by omega)]
      · rw [if_neg q2, if_neg (by omega)]
  have Bk : ∀ k, B k (k + 1) = z.2.1 5 (k + 1) := fun k => by
    subst hB
    exact if_neg (by omega)
  have BS : ∀ k, a ≤ k → upd (B k) k (z.2.1 5 (k + 1)) = B (k + 1) := fun k hk => by
    subst hB
    funext x
    unfold upd
    by_cases q : x = k
    · subst q
      rw [if_pos rfl]
      show _ = (if _ then _ else _)
      rw [if_pos (by omega)]
    · rw [if_neg q]
      show (if _ then _ else _) = (if _ then _ else _)
      by_cases q2 : a ≤ x ∧ x < k
      · rw [if_pos q2, if_pos (by omega)]
      · rw [if_neg q2, if_neg (by omega)]
  have key : ∀ (f k : Nat) (y : zV), a ≤ k → k ≤ N → N - k < f → y.2.1 4 = A k → y.2.1 5 = B k → (∀ q, q ≠ 4 → q ≠ 5 → y.2.1 q = z.2.1 q) → y.1 = (sI z 0 5 (nI N)).1 → y.2.2 = z.2.2 → ∃ z', l_X0_removeListed_12 f y (nI k) = some z' ∧ RC0 z' (dW S a) ∧ frC 0 z z' := by
    intro f
    induction f with
    | zero => intro k y h1 h2 h3; omega
    | succ f ih =>
      intro k y h1 h2 h3 y4 y5 yo yi yp
      have e5 : y.1 0 5 = nI N := by rw [yi]; exact sI_at
      rw [l_X0_removeListed_12, e5]
      by_cases q : k = N
      · subst q
        rw [ifle_t (by omega) (by omega)]
        refine ⟨y, rfl, ⟨fun c h => by rw [yo 1 (by omega) (by omega)]; exact r1 c h, fun n h4 h5 => by rw [yo 2 (by omega) (by omega)]; exact r2 n h4 h5, fun n h4 h5 => by rw [yo 3 (by omega) (by omega)]; exact r3 n h4 h5, fun i h => ?_, fun i j h h' => ?_, by rw [e5, ← hN]; rfl, by rw [yi]; exact r7, by rw [yi]; exact r8, by rw [yi]; exact r9, by rw [yi]; exact r10, by rw [yi]; exact r11⟩, fun q h => yo q (by omega) (by omega), fun q k h => by rw [yi]; exact sI_ne (Or.inl h), yp⟩
        · have hi : i < S.2.2.2.1 5 - 1 := h
          rw [y5, ← hB]
          show (if _ then _ else _) = _
          by_cases q2 : i < a
          · rw [if_neg (by omega), dW_lo q2]; exact r4 i (by omega)
          · rw [if_pos (by omega), dW_hi (by omega)]; exact r4 (i + 1) (by omega)
        · have hi : i < S.2.2.2.1 5 - 1 := h
          rw [y4, ← hA]
          show (if _ then _ else _) = _
          by_cases q2 : i < a
          · rw [dW_lo q2] at h' ⊢
            have := (hls i (by omega)).2.1
            rw [if_neg (by omega)]; exact r5 i j (by omega) h'
          · rw [dW_hi (by omega)] at h' ⊢
            have := (hls (i + 1) (by omega)).2.1
            rw [if_pos (by omega), show i * 7 + j + 7 = (i + 1) * 7 + j by omega]; exact r5 (i + 1) j (by omega) h'
      · rw [ifle_f (by omega) (by omega), nI_add, pk_mul, pk_mul, cpS_in (by omega) (by omega) (by omega) (by omega), rA_in (by omega) (by omega), sR_ne (by omega), y5, Bk, wS_in (by omega) (by omega), y4, AS k h1]
        refine ih (k + 1) _ (by omega) (by omega) (by omega) ?_ ?_ (fun q h4 h5 => ?_) yi yp
        · rw [sA_ne (by omega), sR_at]
        · rw [sA_at, sR_ne (by omega), y5, BS k h1]
        · rw [sA_ne h5, sR_ne h4]; exact yo q h4 h5
  rw [f_X0_removeListed, r6, pk_sub (by omega), pS_eq, hN]
  exact key 1000 a _ (Nat.le_refl _) (by omega) (by omega) A0.symm B0.symm (fun _ _ _ => rfl) rfl rfl
theorem X4_dropWord33 {m : zV} {S : aS} (R : RF (m.2.1 1) S) (I : Iv S) {a : Nat} (ha : a < S.2.2.2.1 5) : ∃ m2, l_X4_dropWord_33 1000 (sA m 1 106 (nI (S.2.2.2.1 5 - 1))) (nI (109 + 8 * a)) = bd2 (f_X4_acted m2 (nI (S.2.2.2.1 5 - 1))) (fun v z => some (v, z)) ∧ RM0 m2 (dW S a) ∧ (∀ q, q ≠ 1 → m2.2.1 q = m.2.1 q) ∧ m2.1 = m.1 := by
  have h12 := I.2.2.2.2.2.2.1
  have hls := I.2.2.2.2.2.2.2
  obtain ⟨r1, r2, r3, r4, r5, r6, r7, r8, r9, r10, r11⟩ := R
  generalize hN : S.2.2.2.1 5 - 1 = N
  generalize hF : upd (m.2.1 1) 106 (nI N) = F
  have Fo : ∀ x, x ≠ 106 → F x = m.2.1 1 x := fun x h => by rw [← hF, upd_ne h]
  have F6 : F 106 = nI N := by rw [← hF, upd_at]
  generalize hA : (fun (k x : Nat) => if 109 + 8 * a ≤ x ∧ x < k then F (x + 8) else F x) = A
  have A0 : A (109 + 8 * a) = F := by
    subst hA
    funext x
    exact if_neg (by omega)
  have Alo : ∀ k x, x < 109 + 8 * a → A k x = F x := fun k x h => by
    subst hA
    exact if_neg (by omega)
  have Ahi : ∀ k x, k ≤ x → A k x = F x := fun k x h => by
    subst hA
    exact if_neg (by omega)
  have Ain : ∀ k x, 109 + 8 * a ≤ x → x < k → A k x = F (x + 8) := fun k x h h' => by
    subst hA
    exact if_pos ⟨h, h'⟩
  have AS : ∀ k, 109 + 8 * a ≤ k → upd (A k) k (F (k + 8)) = A (k + 1) := fun k hk => by
    funext x
    by_cases q : x = k
    · subst q
      rw [upd_at, Ain _ _ hk (by omega)]
    · rw [upd_ne q]
      by_cases q2 : 109 + 8 * a ≤ x ∧ x < k
      · rw [Ain _ _ q2.1 q2.2, Ain _ _ q2.1 (by omega)]
      · by_cases q3 : x < 109 + 8 * a
        · rw [Alo _ _ q3, Alo _ _ q3]
        · rw [Ahi _ _ (by omega), Ahi _ _ (by omega)]
  refine ⟨sR m 1 (A (109 + 8 * N)), ?_, ?_, fun q h => sR_ne h, rfl⟩
  · have key := lp_inv (fun f k => l_X4_dropWord_33 f (sR m 1 (A k)) (nI k)) (fun x => x = bd2 (f_X4_acted (sR m 1 (A (109 + 8 * N))) (nI N)) (fun v z => some (v, z))) (109 + 8 * N) (109 + 8 * a) (fun f => by
      rw [l_X4_dropWord_33, rA_in (by omega) (by omega), sR_at, Alo _ _ (by omega), F6, pk_mul, nI_add, ifle_t (by omega) (by omega), rA_in (by omega) (by omega), Alo _ _ (by omega), F6]) (fun f k hk1 hk2 ih => by
      rw [l_X4_dropWord_33, rA_in (by omega) (by omega), sR_at, Alo _ _ (by omega), F6, pk_mul, nI_add, ifle_f (by omega) (by omega), nI_add, rA_in (by omega) (by omega), Ahi k (k + 8) (by omega), wS_in (by omega) (by omega), sA_R, AS k hk1, nI_add]
      exact ih) 1000 (109 + 8 * a) (by omega) (by omega) (by omega)
    rw [A0, ← hF, ← sA_sR] at key
    exact key
  · rw [RM0_RF, sR_at]
    refine ⟨fun c h => ?_, fun n h1 h2 => ?_, fun n h1 h2 => ?_, fun i h => ?_, fun i j h h' => ?_, ?_, ?_, ?_, ?_, ?_, ?_⟩
    · rw [Alo _ _ (by omega), Fo _ (by omega)]; exact r1 c h
    · rw [Alo _ _ (by omega), Fo _ (by omega)]; exact r2 n h1 h2
    · rw [Alo _ _ (by omega), Fo _ (by omega)]; exact r3 n h1 h2
    · have hi : i < S.2.2.2.1 5 - 1 := h
      by_cases q2 : i < a
      · rw [Alo _ _ (by omega), Fo _ (by omega), dW_lo q2]; exact r4 i (by omega)
      · rw [Ain _ _ (by omega) (by omega), Fo _ (by omega), dW_hi (by omega), show 109 + 8 * i + 8 = 109 + 8 * (i + 1) by omega]; exact r4 (i + 1) (by omega)
    · have hi : i < S.2.2.2.1 5 - 1 := h
      by_cases q2 : i < a
      · rw [dW_lo q2] at h' ⊢
        have := (hls i (by omega)).2.1
        rw [Alo _ _ (by omega), Fo _ (by omega)]; exact r5 i j (by omega) h'
      · rw [dW_hi (by omega)] at h' ⊢
        have := (hls (i + 1) (by omega)).2.1
        rw [Ain _ _ (by omega) (by omega), Fo _ (by omega), show 109 + 8 * i + 1 + j + 8 = 109 + 8 * (i + 1) + 1 + j by omega]; exact r5 (i + 1) j (by omega) h'
    · rw [Alo _ _ (by omega), F6, ← hN]; rfl
    · rw [Alo _ _ (by omega), Fo _ (by omega)]; exact r7
    · rw [Alo _ _ (by omega), Fo _ (by omega)]; exact r8
    · rw [Alo _ _ (by omega), Fo _ (by omega)]; exact r9
    · rw [Alo _ _ (by omega), Fo _ (by omega)]; exact r10
    · rw [Alo _ _ (by omega), Fo _ (by omega)]; exact r11
theorem A_dropWord {z m : zV} (J : JJ z m) (a : Int32) : ActR z m (f_X3_dropWord z a) (f_X4_dropWord m a) := by
  have J' := J
  obtain ⟨S, hs, sn, hn, tk, tl, tx, V, C, M⟩ := J
  have I := V.1
  have h12 := I.2.2.2.2.2.2.1
  rw [f_X3_dropWord, f_X4_dropWord, X3_isInList C.1.2.2.2.2.2.1 (by omega) a, ob_eq, X4_isListed M.1 I a, ob_eq, ifb2, ifb2]
  by_cases ha : inR a 0 ((S.2.2.2.1 5 : Int) - 1) = true
  · rw [if_pos ha, if_pos ha]
    obtain ⟨i, hi, rfl⟩ := inR_n (by omega) ha
    obtain ⟨z1, e1, C1⟩ := X3_remember V C
    obtain ⟨z2, e2, R2, F2⟩ := X0_removeListed C1.1 I hi
    have Rr : RM0 (sR m 2 (pt (m.2.1 2) (m.2.1 1) 0 205)) S := RM0_same (m := m) (sR_ne (by omega)) M.1
    obtain ⟨m2, e3, Q2, G1, G2⟩ := X4_dropWord33 (RM0_RF.mp Rr) I hi
    obtain ⟨m', e4, J2⟩ := Act_done V M C1 (Iv_dW I hi) (frC_S F2) R2 (RW_frC F2 C1.2.1) (m2 := m2) (fun q h _ _ _ => G1 q h) (fun _ _ => by rw [G2]; rfl) Q2 (nI (S.2.2.2.1 5 - 1))
    have e5 : z2.1 0 5 = nI (S.2.2.2.1 5 - 1) := R2.2.2.2.2.2.1
    rw [e1, ob_eq, e2, ob_eq, e5, X4_remember, ob_eq, rA_in (by omega) (by omega), Rr.2.2.2.2.2.1, pk_sub (by omega), wS_in (by omega) (by omega), pk_mul, nI_add, e3, e4, bd2_eq]
    exact ⟨_, _, _, rfl, rfl, J2⟩
  · rw [if_neg ha, if_neg ha]
    exact Act_same J'
