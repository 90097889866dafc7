/-! THE ACTS (5b): guessWord -/
theorem wG_1 (S : aS) (g : Nat → Nat) : (wG S g).1 = S.1 := rfl
theorem A_gwFit {z m : zV} {S : aS} {hs : Nat → aS} {sn : aS} {hn tk tl : Nat} {tx : Nat → Nat} (V : VV S hs sn hn tk tl tx) (C : CC z S hs sn hn tk tl tx) (M : MM m S hs sn hn tk tl tx) (W0 : RV m (wl S.1)) {w i : Nat} (hw : w < nw S) (hi : i < S.2.2.2.1 5) (h : fitB S w i = true) : ActR z m (Option.bind (f_X3_guessedCellsOf z (nI w)) (fun v_32 => (rA (z.2.1 38) 28 (nI w) (fun v_43 => (if v_32 = v_43 then (some ((-5), z)) else (Option.bind (f_X3_remember z) (fun z_51 => (l_X3_guessWord_59 1000 z_51 (nI w) (nI i) (nI 0) (nI 0))))))))) (Option.bind (f_X4_remember m) (fun z_31 => (l_X4_guessWord_39 1000 z_31 (nI w) (nI i) (nI 0) (nI 0)))) := by
  have I := V.1
  have hww := nw_le S
  have hw28 : w < 28 := by omega
  have hn1 := wn_in hw
  have hgc : gco S w ≤ wn S w := cn_le _ _
  have hgw : gwc S w i ≤ wn S w := cn_le _ _
  have b1 : gco S w < 2147483648 := by omega
  have b2 : gwc S w i < 2147483648 := by omega
  have b3 : wn S w < 2147483648 := by omega
  have b4 : wn S w - 0 < 1000 := by omega
  have Wr : RV (sR m 2 (pt (m.2.1 2) (m.2.1 1) 0 205)) (wl S.1) := RV_same (m := m) rfl (sR_ne (by omega)) (sR_ne (by omega)) (sR_ne (by omega)) W0
  have Rr : RM0 (sR m 2 (pt (m.2.1 2) (m.2.1 1) 0 205)) (wG S (gW S w i 0)) := RM0_same (m := m) (S := S) (sR_ne (by omega)) M.1
  obtain ⟨m2, e2, Q2, G1, G2⟩ := X4_guessWord39 I Wr hw hi h 1000 0 _ (Nat.zero_le _) b4 Rr (fun _ _ => rfl) rfl
  have e2' : l_X4_guessWord_39 1000 (sR m 2 (pt (m.2.1 2) (m.2.1 1) 0 205)) (nI w) (nI i) (nI 0) (nI 0) = (if nI (gwc S w i) = nI 0 then some (-5, m2) else bd2 (f_X4_acted m2 (nI (gwc S w i))) (fun v z => some (v, z))) := e2
  rw [X3_guessedCellsOf C.1 I C.2.1 hw, ob_eq, rA_in (f := z.2.1 38) hw28 (by omega), (RW_at C.2.1 hw).2.1, X4_remember, ob_eq, e2']
  by_cases q : gco S w = wn S w
  · have qz := (gwc_0 I hw h).mp q
    rw [ifeq_t q, ifeq_t qz]
    have hg : ∀ k, k < wn S w → S.2.1 (nAt S (cl S w k)) ≠ 0 := fun k hk => by
      have := cn_full.mp q k hk
      simp only [Bool.not_eq_true', beq_eq_false_iff_ne] at this
      rw [← gAt_n (cl_in hw hk).2]; exact this
    rw [gW_full h hg (wn S w) (Nat.le_refl _)] at Q2
    have Q3 : RM0 m2 S := Q2
    obtain ⟨m1, m2', m3, m4, m5, m6, m7⟩ := M
    exact ⟨_, _, _, rfl, rfl, S, hs, sn, hn, tk, tl, tx, V, C, Q3, by rw [G2]; exact m2', fun j hj => RM_same (by rw [G1 3 (by omega)]; exact sR_ne (by omega)) (m3 j hj), by rw [G2]; exact m4, fun ht => RM_same (by rw [G1 4 (by omega)]; exact sR_ne (by omega)) (m5 ht), by rw [G2]; exact m6, fun i hi => by rw [G1 8 (by omega), sR_ne (by omega)]; exact m7 i hi⟩
  · have qz : gwc S w i ≠ 0 := fun x => q ((gwc_0 I hw h).mpr x)
    obtain ⟨z1, e1, C1⟩ := X3_remember V C
    have R1 : RC0 z1 (wG S (gW S w i 0)) := C1.1
    obtain ⟨z2, e3, R2, F2⟩ := X3_guessWord59 I C1.2.1 hw hi h 1000 0 z1 (Nat.zero_le _) b4 R1 (frC_rf _)
    have e3' : l_X3_guessWord_59 1000 z1 (nI w) (nI i) (nI 0) (nI 0) = some (nI (gwc S w i), z2) := e3
    have W2 : RW z2 (wl (wG S (gW S w i (wn S w))).1) := by rw [wG_1]; exact RW_frC F2 C1.2.1
    have I2 := Iv_gW I hw hi h (Nat.le_refl (wn S w))
    generalize gW S w i (wn S w) = G at *
    obtain ⟨m', e4, J2⟩ := Act_done (S2 := wG S G) V M C1 I2 (frC_S F2) R2 W2 (m2 := m2) (fun q h _ _ _ => G1 q h) (fun _ _ => by rw [G2]; rfl) Q2 (nI (gwc S w i))
    rw [ifeq_f q b1 b3, e1, ob_eq, e3', ifeq_f qz b2 (by omega), e4, bd2_eq]
    exact ⟨_, _, _, rfl, rfl, J2⟩
theorem A_guessWord {z m : zV} (J : JJ z m) (a b : Int32) : ActR z m (f_X3_guessWord z a b) (f_X4_guessWord m a b) := by
  obtain ⟨S, hs, sn, hn, tk, tl, tx, V, C, M0⟩ := J
  have I := V.1
  have hww := nw_le S
  have hnl := I.2.2.2.2.2.2.1
  obtain ⟨m0, e0, W0, F0, -⟩ := X4_isWord M0.1 I a
  have M := MM_frV M0 F0
  have J' : JJ z m0 := ⟨S, hs, sn, hn, tk, tl, tx, V, C, M⟩
  have hwl : (wl S.1).length < 2147483648 := by have := wl_len S.1; omega
  rw [f_X3_guessWord, f_X4_guessWord, X3_isWord C.2.1.1 hwl a, e0, ob_eq, bd2_eq, ifb2, ifb2]
  by_cases ha : inR a 0 ((nw S : Int) - 1) = true
  · rw [if_pos (show inR a 0 (((wl S.1).length : Int) - 1) = true from ha), if_pos ha, X3_isInList C.1.2.2.2.2.2.1 (by omega) b, ob_eq, X4_isListed M.1 I b, ob_eq, ifb2, ifb2]
    obtain ⟨w, hw, rfl⟩ := inR_n (by omega) ha
    by_cases hb : inR b 0 ((S.2.2.2.1 5 : Int) - 1) = true
    · rw [if_pos hb, if_pos hb]
      obtain ⟨i, hi, rfl⟩ := inR_n (by omega) hb
      rw [X3_isFitting C.1 I C.2.1 hw hi, ob_eq, X4_isFit M.1 I W0 hw hi, ob_eq, ifb2, ifb2]
      by_cases h : fitB S w i = true
      · rw [if_pos h, if_pos h]
        exact A_gwFit V C M W0 hw hi h
      · rw [if_neg h, if_neg h]
        exact ⟨_, _, _, rfl, rfl, J'⟩
    · rw [if_neg hb, if_neg hb]
      exact ⟨_, _, _, rfl, rfl, J'⟩
  · rw [if_neg (show ¬ inR a 0 (((wl S.1).length : Int) - 1) = true from ha), if_neg ha]
    exact ⟨_, _, _, rfl, rfl, J'⟩
