/-! THE ACTS (3): check, buy -/
theorem lp_cnr {α : Type} {L : Nat → Nat → Nat → α} (p : Nat → Bool) (n : Nat) (r : Nat → α) (hx : ∀ f a, L (f + 1) a n = r a) (ht : ∀ f a k, k < n → p k = true → L (f + 1) a k = L f (a + 1) (k + 1)) (hf : ∀ f a k, k < n → p k = false → L (f + 1) a k = L f a (k + 1)) : ∀ f, n < f → L f 0 0 = r (cn p n) := by
  intro f hfn
  refine lp_up (fun f k => L f (cn p k) k) (r (cn p n)) n (fun f => hx f _) (fun f k hk => ?_) f 0 (by omega) (by omega)
  cases hp : p k with
  | true => rw [cn_t hp]; exact ht f _ k hk hp
  | false => rw [cn_f hp]; exact hf f _ k hk hp
def wrg (S : aS) (w : Nat) : Nat := cn (fun k => !(gAt S (cl S w k) == 0) && !(gAt S (cl S w k) == S.1 (cl S w k))) (wn S w)
theorem X3_check57 {z : zV} {S : aS} (R : RC0 z S) (I : Iv S) (W : RW z (wl S.1)) {w : Nat} (h : w < nw S) : l_X3_check_57 1000 z (nI w) (nI 0) (nI 0) = some (nI (wrg S w), z) := by
  have hw := nw_le S
  have hn := wn_in h
  refine lp_cnr (L := fun f a k => l_X3_check_57 f z (nI w) (nI a) (nI k)) (p := fun k => !(gAt S (cl S w k) == 0) && !(gAt S (cl S w k) == S.1 (cl S w k))) (n := wn S w) (r := fun a => some (nI a, z)) (fun f a => ?_) (fun f a k hk hp => ?_) (fun f a k hk hp => ?_) 1000 (by omega)
  · rw [l_X3_check_57, rA_in (by omega) (by omega), (RW_at W h).2.1, ifle_t (by omega) (by omega)]
  · have hc := cl_lt h hk
    have hg := gAt_le I (cl S w k)
    have hl := I.1 _ hc
    simp only [Bool.and_eq_true, Bool.not_eq_true', beq_eq_false_iff_ne] at hp
    rw [l_X3_check_57, rA_in (by omega) (by omega), (RW_at W h).2.1, ifle_f hk (by omega), X2_cellOf W h, ob_eq, X0_guessAt R I hc, ob_eq, ifec0 hg, if_neg hp.1, rA_in hc (by omega), R.1 _ hc, ifec hg hl, if_neg hp.2, nI_add, nI_add]
  · have hc := cl_lt h hk
    have hg := gAt_le I (cl S w k)
    have hl := I.1 _ hc
    rw [l_X3_check_57, rA_in (by omega) (by omega), (RW_at W h).2.1, ifle_f hk (by omega), X2_cellOf W h, ob_eq, X0_guessAt R I hc, ob_eq, ifec0 hg]
    by_cases q : gAt S (cl S w k) = 0
    · rw [if_pos q, nI_add]
    · rw [if_neg q, rA_in hc (by omega), R.1 _ hc, ifec hg hl]
      by_cases q2 : gAt S (cl S w k) = S.1 (cl S w k)
      · rw [if_pos q2, nI_add]
      · simp [q, q2] at hp
theorem X4_check53 {m : zV} {S : aS} (R : RM0 m S) (I : Iv S) (W : RV m (wl S.1)) {w : Nat} (h : w < nw S) : l_X4_check_53 1000 m (nI w) (nI 0) (nI 0) = bd2 (f_X4_acted m (nI (wrg S w))) (fun v z => some (v, z)) := by
  have hw := nw_le S
  have hn := wn_in h
  refine lp_cnr (L := fun f a k => l_X4_check_53 f m (nI w) (nI a) (nI k)) (p := fun k => !(gAt S (cl S w k) == 0) && !(gAt S (cl S w k) == S.1 (cl S w k))) (n := wn S w) (r := fun a => bd2 (f_X4_acted m (nI a)) (fun v z => some (v, z))) (fun f a => ?_) (fun f a k hk hp => ?_) (fun f a k hk hp => ?_) 1000 (by omega)
  · rw [l_X4_check_53, rA_in (by omega) (by omega), (RV_at W h).2.1, ifle_t (by omega) (by omega)]
  · have hc := cl_lt h hk
    have hg := gAt_le I (cl S w k)
    have hl := I.1 _ hc
    simp only [Bool.and_eq_true, Bool.not_eq_true', beq_eq_false_iff_ne] at hp
    rw [l_X4_check_53, rA_in (by omega) (by omega), (RV_at W h).2.1, ifle_f hk (by omega), X4_cellOf W h, ob_eq, X4_guessAt R I hc, ob_eq, ifem0 hg, if_neg hp.1, ob_eq, nI_add, Nat.zero_add, rA_in (by omega) (by omega), R.1 _ hc, ifem hg hl, if_neg hp.2, nI_add, nI_add]
  · have hc := cl_lt h hk
    have hg := gAt_le I (cl S w k)
    have hl := I.1 _ hc
    rw [l_X4_check_53, rA_in (by omega) (by omega), (RV_at W h).2.1, ifle_f hk (by omega), X4_cellOf W h, ob_eq, X4_guessAt R I hc, ob_eq, ifem0 hg]
    by_cases q : gAt S (cl S w k) = 0
    · rw [if_pos q, nI_add, nI_add, Nat.add_zero]
    · rw [if_neg q, ob_eq, nI_add, Nat.zero_add, rA_in (by omega) (by omega), R.1 _ hc, ifem hg hl]
      by_cases q2 : gAt S (cl S w k) = S.1 (cl S w k)
      · rw [if_pos q2, nI_add, nI_add, Nat.add_zero]
      · simp [q, q2] at hp
theorem RV_same {m m' : zV} {L : List (Nat × Nat × Nat)} (h0 : m'.1 0 9 = m.1 0 9) (h1 : m'.2.1 5 = m.2.1 5) (h2 : m'.2.1 6 = m.2.1 6) (h3 : m'.2.1 7 = m.2.1 7) (W : RV m L) : RV m' L := by
  unfold RV at *
  rw [h0, h1, h2, h3]
  exact W
theorem A_check {z m : zV} (J : JJ z m) (a : Int32) : ActR z m (f_X3_check z a) (f_X4_check m a) := by
  obtain ⟨S, hs, sn, hn, tk, tl, tx, V, C, M0⟩ := J
  have I := V.1
  have hc := I.2.2.2.2.2.1
  have hw := nw_le S
  obtain ⟨m0, e0, W0, F0, -⟩ := X4_isWord M0.1 I a
  have M := MM_frV M0 F0
  have J' : JJ z m0 := ⟨S, hs, sn, hn, tk, tl, tx, V, C, M⟩
  rw [f_X3_check, f_X4_check, X3_isWord C.2.1.1 (by have := nw_le S; unfold nw at this; omega) a, e0, ob_eq, bd2_eq, ifb2, ifb2]
  by_cases ha : inR a 0 ((nw S : Int) - 1) = true
  · rw [if_pos (show inR a 0 (((wl S.1).length : Int) - 1) = true from ha), if_pos ha]
    obtain ⟨w, h, rfl⟩ := inR_n (by omega) ha
    rw [C.1.2.2.2.2.2.2.2.2.1, rA_in (f := m0.2.1 1) (by omega) (by omega), M.1.2.2.2.2.2.2.2.2.1]
    by_cases q : S.2.2.2.1 2 = 0
    · rw [ifeq_t q, ifeq_t q]
      exact ⟨_, _, _, rfl, rfl, J'⟩
    · obtain ⟨z1, e1, C1⟩ := X3_remember V C
      have I2 : Iv (wSc (wSc S 2 (S.2.2.2.1 2 - 1)) 4 (S.2.2.2.1 4 + 1)) := Iv_checks (Iv_coins (by omega) I)
      have R2 : RC0 (sI (sI z1 0 8 (nI (S.2.2.2.1 2 - 1))) 0 10 (nI (S.2.2.2.1 4 + 1))) (wSc (wSc S 2 (S.2.2.2.1 2 - 1)) 4 (S.2.2.2.1 4 + 1)) := RC0_checks (RC0_coins C1.1)
      have W2 : RW (sI (sI z1 0 8 (nI (S.2.2.2.1 2 - 1))) 0 10 (nI (S.2.2.2.1 4 + 1))) (wl (wSc (wSc S 2 (S.2.2.2.1 2 - 1)) 4 (S.2.2.2.1 4 + 1)).1) := RW_sI (RW_sI C1.2.1)
      have k10 : (sI z1 0 8 (nI (S.2.2.2.1 2 - 1))).1 0 10 = nI (S.2.2.2.1 4) := by
        rw [sI_ne (by omega)]; exact C1.1.2.2.2.2.2.2.2.2.2.2
      rw [ifeq_f q (by omega) (by omega), ifeq_f q (by omega) (by omega), e1, ob_eq, pS_eq, C1.1.2.2.2.2.2.2.2.2.1, pk_sub (by omega), pS_eq, k10, nI_add, X3_check57 R2 I2 W2 h, X4_remember, ob_eq, rA_in (f := (sR m0 2 (pt (m0.2.1 2) (m0.2.1 1) 0 205)).2.1 1) (by omega) (by omega), sR_ne (by omega), M.1.2.2.2.2.2.2.2.2.1, pk_sub (by omega), wS_in (by omega) (by omega), rA_in (by omega) (by omega), sA_at, sR_ne (by omega), upd_ne (by omega), M.1.2.2.2.2.2.2.2.2.2.2, nI_add, wS_in (by omega) (by omega)]
      generalize hm2 : sA (sA (sR m0 2 (pt (m0.2.1 2) (m0.2.1 1) 0 205)) 1 105 (nI (S.2.2.2.1 2 - 1))) 1 108 (nI (S.2.2.2.1 4 + 1)) = m2
      have Q2 : RM0 m2 (wSc (wSc S 2 (S.2.2.2.1 2 - 1)) 4 (S.2.2.2.1 4 + 1)) := by
        subst hm2
        rw [RM0_RF, sA_at, sA_at, sR_ne (by omega)]
        exact RF_checks (RF_coins (RM0_RF.mp M.1))
      have V2 : RV m2 (wl (wSc (wSc S 2 (S.2.2.2.1 2 - 1)) 4 (S.2.2.2.1 4 + 1)).1) := by
        subst hm2
        exact RV_same (m := m0) rfl (by rw [sA_ne (by omega), sA_ne (by omega), sR_ne (by omega)]) (by rw [sA_ne (by omega), sA_ne (by omega), sR_ne (by omega)]) (by rw [sA_ne (by omega), sA_ne (by omega), sR_ne (by omega)]) W0
      obtain ⟨m', e2, J2⟩ := Act_done V M C1 I2 (frS_tr frS_sI frS_sI) R2 W2 (fun q h _ _ _ => by rw [← hm2, sA_ne h, sA_ne h]) (fun _ _ => by rw [← hm2]; rfl) Q2 (nI (wrg (wSc (wSc S 2 (S.2.2.2.1 2 - 1)) 4 (S.2.2.2.1 4 + 1)) w))
      rw [X4_check53 Q2 I2 V2 h, e2, bd2_eq]
      exact ⟨_, _, _, rfl, rfl, J2⟩
  · rw [if_neg (show ¬ inR a 0 (((wl S.1).length : Int) - 1) = true from ha), if_neg ha]
    exact ⟨_, _, _, rfl, rfl, J'⟩
/-- what a sale does -/
def bg (S : aS) (L : Nat) : Nat → Nat := fun k => if S.2.1 k = L then 0 else S.2.1 k
def bS (S : aS) (n L p : Nat) : aS := (S.1, upN (bg S L) n L, upN S.2.2.1 n 1, upN (upN S.2.2.2.1 2 (S.2.2.2.1 2 - p)) 3 (S.2.2.2.1 3 + 1), S.2.2.2.2)
theorem bg_ne {S : aS} {L k : Nat} (h : L ≠ 0) : bg S L k ≠ L := by
  unfold bg
  split
  · exact fun q => h q.symm
  · assumption
theorem bg_le {S : aS} {L k : Nat} (h : S.2.1 k ≤ 26) : bg S L k ≤ 26 := by
  unfold bg
  split <;> omega
theorem Iv_bS {S : aS} {n L p : Nat} (I : Iv S) (hL : L ≠ 0) (hL2 : L ≤ 26) : Iv (bS S n L p) := by
  obtain ⟨i1, i2, i3, i4, i5, i6, i7⟩ := I
  refine ⟨i1, i2, fun k h3 h4 => ?_, fun a b h3 h4 h5 h6 e e0 => ?_, fun k h3 h4 => ?_, Nat.le_trans (Nat.sub_le _ _) i6, i7⟩
  · show upN (bg S L) n L k ≤ 26
    unfold upN
    split
    · exact hL2
    · exact bg_le (i3 k h3 h4)
  · have e' : upN (bg S L) n L a = upN (bg S L) n L b := e
    have e0' : upN (bg S L) n L a ≠ 0 := e0
    by_cases qa : a = n
    · by_cases qb : b = n
      · omega
      · subst qa
        rw [upN_at, upN_ne qb] at e'
        exact absurd e'.symm (bg_ne hL)
    · by_cases qb : b = n
      · subst qb
        rw [upN_at, upN_ne qa] at e'
        exact absurd e' (bg_ne hL)
      · rw [upN_ne qa, upN_ne qb] at e'
        rw [upN_ne qa] at e0'
        unfold bg at e' e0'
        split at e0'
        · exact absurd rfl e0'
        · rename_i q1
          rw [if_neg q1] at e'
          split at e'
          · exact absurd e' e0'
          · exact i4 a b h3 h4 h5 h6 e' e0'
  · show upN S.2.2.1 n 1 k ≤ 1
    unfold upN
    split
    · omega
    · exact i5 k h3 h4
theorem X3_buy100 {z1 y : zV} {S : aS} {n L p : Nat} (R : RC0 z1 S) (h1 : 1 ≤ n) (h2 : n ≤ 26) (hp : p ≤ S.2.2.2.1 2) (ha : ∀ q, q ≠ 2 → y.2.1 q = z1.2.1 q) (hb : y.1 = z1.1) (hc : y.2.2 = z1.2.2) (hd : ∀ k, 1 ≤ k → k ≤ 26 → y.2.1 2 k = nI (ec (bg S L k))) : ∃ z2, j_X3_buy_100 y (nI n) (nI p) (nI (ec L)) = some (nI (ec L), z2) ∧ RC0 z2 (bS S n L p) ∧ frC 0 z1 z2 := by
  obtain ⟨r1, r2, r3, r4, r5, r6, r7, r8, r9, r10, r11⟩ := R
  have k8 : (sA (sA y 2 n (nI (ec L))) 3 n (vp_nar .boolean (nI 1))).1 0 8 = nI (S.2.2.2.1 2) := by
    show y.1 0 8 = _
    rw [hb]; exact r9
  have k9 : (sI (sA (sA y 2 n (nI (ec L))) 3 n (vp_nar .boolean (nI 1))) 0 8 (nI (S.2.2.2.1 2 - p))).1 0 9 = nI (S.2.2.2.1 3) := by
    rw [sI_ne (by omega)]
    show y.1 0 9 = _
    rw [hb]; exact r10
  rw [j_X3_buy_100, wS_in (by omega) (by omega), wS_in (by omega) (by omega), pS_eq, k8, pk_sub hp, pS_eq, k9, nI_add]
  generalize hz : sA (sA y 2 n (nI (ec L))) 3 n (vp_nar .boolean (nI 1)) = y2
  have a2 : ∀ q, q ≠ 2 → q ≠ 3 → y2.2.1 q = z1.2.1 q := fun q q1 q2 => by rw [← hz, sA_ne q2, sA_ne q1]; exact ha q q1
  have b2 : y2.1 = z1.1 := by rw [← hz]; exact hb
  refine ⟨_, rfl, ⟨fun c h => ?_, fun k h3 h4 => ?_, fun k h3 h4 => ?_, fun i h => ?_, fun i j h h' => ?_, ?_, ?_, ?_, rfl, rfl, ?_⟩, fun q h => a2 q (by omega) (by omega), fun q k h => ?_, ?_⟩
  · show y2.2.1 1 c = _
    rw [a2 1 (by omega) (by omega)]; exact r1 c h
  · show y2.2.1 2 k = nI (ec (upN (bg S L) n L k))
    rw [← hz, sA_ne (by omega), sA_at]
    by_cases e : k = n
    · subst e; rw [upd_at, upN_at]
    · rw [upd_ne e, upN_ne e]; exact hd k h3 h4
  · show y2.2.1 3 k = nI (upN S.2.2.1 n 1 k)
    rw [← hz, sA_at]
    by_cases e : k = n
    · subst e; rw [upd_at, upN_at]; exact nar_b (by omega)
    · rw [upd_ne e, upN_ne e, sA_ne (by omega), ha 3 (by omega)]; exact r3 k h3 h4
  · show y2.2.1 5 i = _
    rw [a2 5 (by omega) (by omega)]; exact r4 i h
  · show y2.2.1 4 (i * 7 + j) = _
    rw [a2 4 (by omega) (by omega)]; exact r5 i j h h'
  · rw [sI_ne (by omega), sI_ne (by omega), b2]; exact r6
  · rw [sI_ne (by omega), sI_ne (by omega), b2]; exact r7
  · rw [sI_ne (by omega), sI_ne (by omega), b2]; exact r8
  · rw [sI_ne (by omega), sI_ne (by omega), b2]; exact r11
  · rw [sI_ne (by omega), sI_ne (by omega), b2]
  · rw [← hz]; exact hc
theorem X3_isNumberN (z : zV) {k : Nat} (h : k ≤ 26) : f_X3_isNumber z (nI k) = some (b2 (decide (1 ≤ k))) := by
  rw [X3_isNumber, inR_nI (by omega)]
  by_cases q : 1 ≤ k
  · rw [decide_eq_true (by omega), decide_eq_true q]
  · rw [decide_eq_false (by omega), decide_eq_false q]
theorem X4_buy66 {m : zV} {S : aS} {n L p : Nat} (R : RF (m.2.1 1) S) (I : Iv S) (h1 : 1 ≤ n) (h2 : n ≤ 26) (hL : L ≠ 0) (hL2 : L ≤ 26) (hp : p ≤ S.2.2.2.1 2) : ∃ m2, l_X4_buy_66 1000 m (nI n) (nI p) (nI (L - 1)) (nI 1) = bd2 (f_X4_acted m2 (nI (ec L))) (fun v z => some (v, z)) ∧ RM0 m2 (bS S n L p) ∧ (∀ q, q ≠ 1 → m2.2.1 q = m.2.1 q) ∧ m2.1 = m.1 := by
  obtain ⟨r1, r2, r3, r4, r5, r6, r7, r8, r9, r10, r11⟩ := R
  have hne : ∀ k, 1 ≤ k → k ≤ 26 → (m.2.1 1 (51 + k) = nI (L - 1) ↔ S.2.1 k = L) := fun k h3 h4 => by
    rw [r2 k h3 h4, ← eM_pos hL]
    exact ⟨fun q => eM_inj (I.2.2.1 k h3 h4) hL2 q, fun q => by rw [q]⟩
  generalize hA : (fun (k i : Nat) => if 51 < i ∧ i < 51 + k ∧ m.2.1 1 i = nI (L - 1) then (-1 : Int32) else m.2.1 1 i) = A
  have hA1 : A 1 = m.2.1 1 := by
    subst hA
    funext i
    exact if_neg (by omega)
  have hAk : ∀ k i, 51 + k ≤ i → A k i = m.2.1 1 i := fun k i h => by
    subst hA
    exact if_neg (by omega)
  have hAo : ∀ i, i ≤ 51 ∨ 78 ≤ i → A 27 i = m.2.1 1 i := fun i h => by
    subst hA
    exact if_neg (by omega)
  have hAs : ∀ k, 1 ≤ k → upd (A k) (51 + k) (if m.2.1 1 (51 + k) = nI (L - 1) then -1 else m.2.1 1 (51 + k)) = A (k + 1) := fun k h => by
    subst hA
    funext i
    unfold upd
    by_cases e : i = 51 + k
    · subst e
      rw [if_pos rfl]
      dsimp only
      by_cases e2 : m.2.1 1 (51 + k) = nI (L - 1)
      · rw [if_pos e2, if_pos ⟨by omega, by omega, e2⟩]
      · rw [if_neg e2, if_neg (fun q => e2 q.2.2)]
    · rw [if_neg e]
      try dsimp only
      by_cases e2 : 51 < i ∧ i < 51 + k ∧ m.2.1 1 i = nI (L - 1)
      · rw [if_pos e2, if_pos ⟨e2.1, by omega, e2.2.2⟩]
      · rw [if_neg e2, if_neg (fun q => e2 ⟨q.1, by omega, q.2.2⟩)]
  have hAg : ∀ k, 1 ≤ k → k ≤ 26 → A 27 (51 + k) = eM (bg S L k) := fun k h3 h4 => by
    subst hA
    show (if _ then _ else _) = _
    unfold bg
    by_cases e : S.2.1 k = L
    · rw [if_pos ⟨by omega, by omega, (hne k h3 h4).mpr e⟩, if_pos e]; rfl
    · rw [if_neg (fun q => e ((hne k h3 h4).mp q.2.2)), if_neg e]; exact r2 k h3 h4
  refine ⟨sA (sA (sA (sA (sR m 1 (A 27)) 1 (51 + n) (nI (L - 1))) 1 (78 + n) (nI 1)) 1 105 (nI (S.2.2.2.1 2 - p))) 1 107 (nI (S.2.2.2.1 3 + 1)), ?_, ?_, fun q h => by rw [sA_ne h, sA_ne h, sA_ne h, sA_ne h, sR_ne h], rfl⟩
  · have key := lp_inv (fun f k => l_X4_buy_66 f (sR m 1 (A k)) (nI n) (nI p) (nI (L - 1)) (nI k)) (fun x => x = bd2 (f_X4_acted (sA (sA (sA (sA (sR m 1 (A 27)) 1 (51 + n) (nI (L - 1))) 1 (78 + n) (nI 1)) 1 105 (nI (S.2.2.2.1 2 - p))) 1 107 (nI (S.2.2.2.1 3 + 1))) (nI (ec L))) (fun v z => some (v, z))) 27 1 (fun f => by
      rw [l_X4_buy_66, iflt_t (by omega) (by omega), nI_add, wS_in (by omega) (by omega), nI_add, wS_in (by omega) (by omega), rA_in (by omega) (by omega), sA_at, upd_ne (by omega), sA_at, upd_ne (by omega), sR_at, hAo 105 (by omega), r9, pk_sub hp, wS_in (by omega) (by omega), rA_in (by omega) (by omega), sA_at, upd_ne (by omega), sA_at, upd_ne (by omega), sA_at, upd_ne (by omega), sR_at, hAo 107 (by omega), r10, nI_add, wS_in (by omega) (by omega), nI_add, ec_pos hL, show 97 + (L - 1) = 96 + L by omega]) (fun f k hk1 hk2 ih => by
      have e := hAs k hk1
      rw [l_X4_buy_66, iflt_f (by omega) (by omega), nI_add, rA_in (by omega) (by omega), sR_at, hAk k (51 + k) (by omega)]
      by_cases q : m.2.1 1 (51 + k) = nI (L - 1)
      · rw [if_pos q] at e
        rw [if_pos q, wS_in (by omega) (by omega), sA_R, e, nI_add]
        exact ih
      · rw [if_neg q] at e
        rw [if_neg q, rA_in (by omega) (by omega), hAk k (51 + k) (by omega), wS_in (by omega) (by omega), sA_R, e, nI_add]
        exact ih) 1000 1 (by omega) (by omega) (by omega)
    rw [hA1, sR_same] at key
    exact key
  · rw [RM0_RF, sA_at, sA_at, sA_at, sA_at, sR_at]
    refine ⟨fun c h => ?_, fun k h3 h4 => ?_, fun k h3 h4 => ?_, fun i h => ?_, fun i j h h' => ?_, ?_, ?_, ?_, ?_, upd_at, ?_⟩
    · rw [upd_ne (by omega), upd_ne (by omega), upd_ne (by omega), upd_ne (by omega), hAo _ (by omega)]; exact r1 c h
    · rw [upd_ne (by omega), upd_ne (by omega), upd_ne (by omega)]
      show _ = eM (upN (bg S L) n L k)
      by_cases e : k = n
      · subst e; rw [upd_at, upN_at, eM_pos hL]
      · rw [upd_ne (by omega), upN_ne e]; exact hAg k h3 h4
    · rw [upd_ne (by omega), upd_ne (by omega)]
      show _ = nI (upN S.2.2.1 n 1 k)
      by_cases e : k = n
      · subst e; rw [upd_at, upN_at]
      · rw [upd_ne (by omega), upd_ne (by omega), upN_ne e, hAo _ (by omega)]; exact r3 k h3 h4
    · rw [upd_ne (by omega), upd_ne (by omega), upd_ne (by omega), upd_ne (by omega), hAo _ (by omega)]; exact r4 i h
    · rw [upd_ne (by omega), upd_ne (by omega), upd_ne (by omega), upd_ne (by omega), hAo _ (by omega)]; exact r5 i j h h'
    · rw [upd_ne (by omega), upd_ne (by omega), upd_ne (by omega), upd_ne (by omega), hAo _ (by omega)]; exact r6
    · rw [upd_ne (by omega), upd_ne (by omega), upd_ne (by omega), upd_ne (by omega), hAo _ (by omega)]; exact r7
    · rw [upd_ne (by omega), upd_ne (by omega), upd_ne (by omega), upd_ne (by omega), hAo _ (by omega)]; exact r8
    · rw [upd_ne (by omega), upd_at]; rfl
    · rw [upd_ne (by omega), upd_ne (by omega), upd_ne (by omega), upd_ne (by omega), hAo _ (by omega)]; exact r11
theorem A_buy {z m : zV} (J : JJ z m) (a : Int32) : ActR z m (f_X3_buy z a) (f_X4_buy m a) := by
  have J' := J
  obtain ⟨S, hs, sn, hn, tk, tl, tx, V, C, M⟩ := J
  have I := V.1
  have hc := I.2.2.2.2.2.1
  rw [f_X3_buy, f_X4_buy, X3_isNumber, ob_eq, X4_isNumber, ob_eq, ifb2, ifb2]
  by_cases ha : inR a 1 26 = true
  · rw [if_pos ha, if_pos ha]
    obtain ⟨n, h1, h2, rfl⟩ := inR_t (lo := 1) (hi := 26) (by omega) ha
    have hfx := I.2.2.2.2.1 n h1 h2
    have hp := pr_le S n
    have hcw := cw_le S n
    rw [X0_priceOf C.1 I h2, ob_eq, X4_priceOf M.1 I h1 h2, ob_eq, rA_in (f := z.2.1 3) (by omega) (by omega), C.1.2.2.1 n h1 h2, nI_add, rA_in (f := m.2.1 1) (by omega) (by omega), M.1.2.2.1 n h1 h2]
    by_cases q : S.2.2.1 n = 0
    · rw [ifeq_t q, ifeq_f (show S.2.2.1 n ≠ 1 by omega) (by omega) (by omega), rA_in (f := m.2.1 1) (by omega) (by omega), M.1.2.2.2.2.2.2.2.2.1, C.1.2.2.2.2.2.2.2.2.1]
      by_cases q2 : pr S n ≤ S.2.2.2.1 2
      · rw [ifle_t q2 (by omega), ifle_t q2 (by omega), X0_cellsWith C.1 I h2, ob_eq, X4_cellsWith M.1 I h1 h2, ob_eq]
        by_cases q3 : cw S n = 0
        · rw [ifeq_t q3, ifeq_t q3]
          exact Act_same J'
        · obtain ⟨z1, e1, C1⟩ := X3_remember V C
          obtain ⟨l1, l2, l3⟩ := lt_spec I h1 h2
          have Rr : RM0 (sR m 2 (pt (m.2.1 2) (m.2.1 1) 0 205)) S := RM0_same (sR_ne (by omega)) M.1
          obtain ⟨m2, e2, Q2, F3, F4⟩ := X4_buy66 (m := sR m 2 (pt (m.2.1 2) (m.2.1 1) 0 205)) (n := n) (L := lt S.2.2.2.1 n) (p := pr S n) (RM0_RF.mp Rr) I h1 h2 (by omega) l2 q2
          rw [ifeq_f q3 (by omega) (by omega), ifeq_f q3 (by omega) (by omega), e1, ob_eq, X0_letterOf C1.1 I h1 h2, ob_eq, X0_numberGuessedAs C1.1 I l2, ob_eq, X3_isNumberN _ (ngA_le _ _), ob_eq, ifb2, X4_remember, ob_eq, X4_letterOf Rr I h1 h2, ob_eq, e2]
          have I2 : Iv (bS S n (lt S.2.2.2.1 n) (pr S n)) := Iv_bS I (by omega) l2
          have fin : ∀ z2, RC0 z2 (bS S n (lt S.2.2.2.1 n) (pr S n)) → frC 0 z1 z2 → ActR z m (some (nI (ec (lt S.2.2.2.1 n)), z2)) (bd2 (f_X4_acted m2 (nI (ec (lt S.2.2.2.1 n)))) (fun v z => some (v, z))) := fun z2 R2 F2 => by
            obtain ⟨m', e3, J2⟩ := Act_done V M C1 I2 (frC_S F2) R2 (RW_frC F2 C1.2.1) (m2 := m2) (fun q h _ _ _ => F3 q h) (fun _ _ => by rw [F4]; rfl) Q2 (nI (ec (lt S.2.2.2.1 n)))
            rw [e3, bd2_eq]
            exact ⟨_, _, _, rfl, rfl, J2⟩
          rcases ngA_cases I (l := lt S.2.2.2.1 n) (by omega) with ⟨k, k1, k2, k3, k4⟩ | ⟨k3, k4⟩
          · rw [k4, if_pos (decide_eq_true k1), wS_in (by omega) (by omega)]
            obtain ⟨z2, e4, R2, F2⟩ := X3_buy100 (z1 := z1) (y := sA z1 2 k (nI 0)) (S := S) (n := n) (L := lt S.2.2.2.1 n) (p := pr S n) C1.1 h1 h2 q2 (fun q h => sA_ne h) rfl rfl (fun j j1 j2 => by
              rw [sA_at]
              unfold bg
              by_cases e : j = k
              · subst e
                rw [upd_at, if_pos k3]; rfl
              · rw [upd_ne e, if_neg (fun q => e (I.2.2.2.1 j k j1 j2 k1 k2 (by rw [q, k3]) (by rw [q]; omega)))]
                exact C1.1.2.1 j j1 j2)
            rw [e4]
            exact fin z2 R2 F2
          · rw [k4, if_neg (by decide)]
            obtain ⟨z2, e4, R2, F2⟩ := X3_buy100 (z1 := z1) (y := z1) (S := S) (n := n) (L := lt S.2.2.2.1 n) (p := pr S n) C1.1 h1 h2 q2 (fun q h => rfl) rfl rfl (fun j j1 j2 => by
              unfold bg
              rw [if_neg (k3 j j1 j2)]
              exact C1.1.2.1 j j1 j2)
            rw [e4]
            exact fin z2 R2 F2
      · rw [ifle_f (by omega) (by omega), ifle_f (by omega) (by omega)]
        exact Act_same J'
    · rw [ifeq_f q (by omega) (by omega), ifeq_t (show S.2.2.1 n = 1 by omega)]
      exact Act_same J'
  · rw [if_neg ha, if_neg ha]
    exact Act_same J'
