/-! THE ACTS (1): what holds between the calls, and the calls that touch no word: give, type, clearText, undo, keep, restore -/
def JJ (z m : zV) : Prop := ∃ (S : aS) (hs : Nat → aS) (sn : aS) (hn tk tl : Nat) (tx : Nat → Nat), VV S hs sn hn tk tl tx ∧ CC z S hs sn hn tk tl tx ∧ MM m S hs sn hn tk tl tx
def ActR (z m : zV) (fc fm : Option (Int32 × zV)) : Prop := ∃ r z' m', fc = some (r, z') ∧ fm = some (r, m') ∧ JJ z' m'
theorem Act_same {z m : zV} {r : Int32} (J : JJ z m) : ActR z m (some (r, z)) (some (r, m)) := ⟨r, z, m, rfl, rfl, J⟩
def upN (f : Nat → Nat) (k v : Nat) : Nat → Nat := fun i => if i = k then v else f i
theorem upN_at {f : Nat → Nat} {k v : Nat} : upN f k v k = v := if_pos rfl
theorem upN_ne {f : Nat → Nat} {i k v : Nat} (h : i ≠ k) : upN f k v i = f i := if_neg h
def wSc (S : aS) (k v : Nat) : aS := (S.1, S.2.1, S.2.2.1, upN S.2.2.2.1 k v, S.2.2.2.2)
/-- the state and the words as they were read, put together again -/
theorem RC0_coins {z : zV} {S : aS} {v : Nat} (R : RC0 z S) : RC0 (sI z 0 8 (nI v)) (wSc S 2 v) := by
  obtain ⟨r1, r2, r3, r4, r5, r6, r7, r8, r9, r10, r11⟩ := R
  exact ⟨r1, r2, r3, r4, r5, r6, r7, r8, rfl, r10, r11⟩
theorem RC0_bought {z : zV} {S : aS} {v : Nat} (R : RC0 z S) : RC0 (sI z 0 9 (nI v)) (wSc S 3 v) := by
  obtain ⟨r1, r2, r3, r4, r5, r6, r7, r8, r9, r10, r11⟩ := R
  exact ⟨r1, r2, r3, r4, r5, r6, r7, r8, r9, rfl, r11⟩
theorem RC0_checks {z : zV} {S : aS} {v : Nat} (R : RC0 z S) : RC0 (sI z 0 10 (nI v)) (wSc S 4 v) := by
  obtain ⟨r1, r2, r3, r4, r5, r6, r7, r8, r9, r10, r11⟩ := R
  exact ⟨r1, r2, r3, r4, r5, r6, r7, r8, r9, r10, rfl⟩
theorem frS_sI {z : zV} {k : Nat} {v : Int32} : frS z (sI z 0 k v) := ⟨fun _ _ _ _ _ => rfl, fun q k' h _ => sI_ne (Or.inl h), rfl⟩
theorem RW_sI {z : zV} {k : Nat} {v : Int32} {L : List (Nat × Nat × Nat)} (W : RW z L) : RW (sI z 0 k v) L := RW_same (sI_ne (Or.inl (by omega))) rfl rfl rfl W
/-- the model's state as a row of numbers -/
def RF (f : Nat → Int32) (S : aS) : Prop := (∀ c, c < 49 → f c = eM (S.1 c)) ∧ (∀ n, 1 ≤ n → n ≤ 26 → f (51 + n) = eM (S.2.1 n)) ∧ (∀ n, 1 ≤ n → n ≤ 26 → f (78 + n) = nI (S.2.2.1 n)) ∧ (∀ i, i < S.2.2.2.1 5 → f (109 + 8 * i) = nI (S.2.2.2.2 i 0)) ∧ (∀ i j, i < S.2.2.2.1 5 → j < S.2.2.2.2 i 0 → f (109 + 8 * i + 1 + j) = eM (S.2.2.2.2 i (j + 1))) ∧ f 106 = nI (S.2.2.2.1 5) ∧ f 49 = nI (S.2.2.2.1 0) ∧ f 50 = nI (S.2.2.2.1 1) ∧ f 105 = nI (S.2.2.2.1 2) ∧ f 107 = nI (S.2.2.2.1 3) ∧ f 108 = nI (S.2.2.2.1 4)
theorem RM0_RF {m : zV} {S : aS} : RM0 m S ↔ RF (m.2.1 1) S := Iff.rfl
theorem RF_coins {f : Nat → Int32} {S : aS} {v : Nat} (R : RF f S) : RF (upd f 105 (nI v)) (wSc S 2 v) := by
  obtain ⟨r1, r2, r3, r4, r5, r6, r7, r8, r9, r10, r11⟩ := R
  exact ⟨fun c h => by rw [upd_ne (by omega)]; exact r1 c h, fun n h1 h2 => by rw [upd_ne (by omega)]; exact r2 n h1 h2, fun n h1 h2 => by rw [upd_ne (by omega)]; exact r3 n h1 h2, fun i h => by rw [upd_ne (by omega)]; exact r4 i h, fun i j h h2 => by rw [upd_ne (by omega)]; exact r5 i j h h2, r6, r7, r8, rfl, r10, r11⟩
theorem RF_bought {f : Nat → Int32} {S : aS} {v : Nat} (R : RF f S) : RF (upd f 107 (nI v)) (wSc S 3 v) := by
  obtain ⟨r1, r2, r3, r4, r5, r6, r7, r8, r9, r10, r11⟩ := R
  exact ⟨fun c h => by rw [upd_ne (by omega)]; exact r1 c h, fun n h1 h2 => by rw [upd_ne (by omega)]; exact r2 n h1 h2, fun n h1 h2 => by rw [upd_ne (by omega)]; exact r3 n h1 h2, fun i h => by rw [upd_ne (by omega)]; exact r4 i h, fun i j h h2 => by rw [upd_ne (by omega)]; exact r5 i j h h2, r6, r7, r8, r9, rfl, r11⟩
theorem RF_checks {f : Nat → Int32} {S : aS} {v : Nat} (R : RF f S) : RF (upd f 108 (nI v)) (wSc S 4 v) := by
  obtain ⟨r1, r2, r3, r4, r5, r6, r7, r8, r9, r10, r11⟩ := R
  exact ⟨fun c h => by rw [upd_ne (by omega)]; exact r1 c h, fun n h1 h2 => by rw [upd_ne (by omega)]; exact r2 n h1 h2, fun n h1 h2 => by rw [upd_ne (by omega)]; exact r3 n h1 h2, fun i h => by rw [upd_ne (by omega)]; exact r4 i h, fun i j h h2 => by rw [upd_ne (by omega)]; exact r5 i j h h2, r6, r7, r8, r9, r10, rfl⟩
theorem Iv_coins {S : aS} {v : Nat} (h : v ≤ 999) (I : Iv S) : Iv (wSc S 2 v) := ⟨I.1, I.2.1, I.2.2.1, I.2.2.2.1, I.2.2.2.2.1, h, I.2.2.2.2.2.2⟩
theorem Iv_bought {S : aS} {v : Nat} (I : Iv S) : Iv (wSc S 3 v) := ⟨I.1, I.2.1, I.2.2.1, I.2.2.2.1, I.2.2.2.2.1, I.2.2.2.2.2.1, I.2.2.2.2.2.2⟩
theorem Iv_checks {S : aS} {v : Nat} (I : Iv S) : Iv (wSc S 4 v) := ⟨I.1, I.2.1, I.2.2.1, I.2.2.2.1, I.2.2.2.2.1, I.2.2.2.2.2.1, I.2.2.2.2.2.2⟩
theorem VV_push {S S2 : aS} {hs : Nat → aS} {sn : aS} {hn tk tl : Nat} {tx : Nat → Nat} (V : VV S hs sn hn tk tl tx) (I2 : Iv S2) : VV S2 (hpush hs hn S) sn (hlen hn) tk tl tx := ⟨I2, hpush_Iv V.2.2.2.1 V.2.1 V.1, V.2.2.1, hlen_le V.2.2.2.1, V.2.2.2.2⟩
/-- an act of both sides: the class ends in z2, the model in m2 before the history takes what was kept -/
theorem Act_done {m z1 z2 m2 : zV} {S S2 : aS} {hs : Nat → aS} {sn : aS} {hn tk tl : Nat} {tx : Nat → Nat} (V : VV S hs sn hn tk tl tx) (M : MM m S hs sn hn tk tl tx) (C1 : CC z1 S (hpush hs hn S) sn (hlen hn) tk tl tx) (I2 : Iv S2) (F : frS z1 z2) (R : RC0 z2 S2) (W : RW z2 (wl S2.1)) (h1 : ∀ q, q ≠ 1 → q ≠ 5 → q ≠ 6 → q ≠ 7 → m2.2.1 q = (sR m 2 (pt (m.2.1 2) (m.2.1 1) 0 205)).2.1 q) (h2 : ∀ k, k ≠ 9 → m2.1 0 k = m.1 0 k) (R2 : RM0 m2 S2) (r : Int32) : ∃ m', f_X4_acted m2 r = some (r, m') ∧ JJ z2 m' := by
  obtain ⟨m', e, M'⟩ := X4_act V M h1 h2 R2 r
  have V' := VV_push V I2
  exact ⟨m', e, S2, _, _, _, _, _, _, V', CC_upd V'.2.2.2.1 C1 F R W, M'⟩
theorem A_give {z m : zV} (J : JJ z m) (a : Int32) : ActR z m (f_X3_give z a) (f_X4_give m a) := by
  have J' := J
  obtain ⟨S, hs, sn, hn, tk, tl, tx, V, C, M⟩ := J
  have hc := V.1.2.2.2.2.2.1
  rw [f_X3_give, f_X4_give, X4_inL m a (by omega) (by omega), ob_eq, ifb2]
  by_cases ha : inR a ((1 : Nat) : Int) ((99 : Nat) : Int) = true
  · rw [if_pos ha]
    obtain ⟨v, h1, h2, rfl⟩ := inR_t (by omega) ha
    rw [iflt_f h1 (by omega), ifle_t h2 (by omega), C.1.2.2.2.2.2.2.2.2.1, rA_in (by omega) (by omega), M.1.2.2.2.2.2.2.2.2.1]
    by_cases q : S.2.2.2.1 2 = 999
    · rw [ifeq_t q, ifeq_t q]
      exact Act_same J'
    · obtain ⟨z1, e1, C1⟩ := X3_remember V C
      rw [ifeq_f q (by omega) (by omega), ifeq_f q (by omega) (by omega), e1, ob_eq, X4_remember, ob_eq, C1.1.2.2.2.2.2.2.2.2.1, nI_add, pS_eq, rA_in (by omega) (by omega), sR_ne (by omega), M.1.2.2.2.2.2.2.2.2.1, nI_add]
      have hm : ∀ (x : Nat), x ≤ 999 → ∃ m', f_X4_acted (sA (sR m 2 (pt (m.2.1 2) (m.2.1 1) 0 205)) 1 105 (nI x)) (nI x) = some (nI x, m') ∧ JJ (sI z1 0 8 (nI x)) m' := fun x hx => Act_done V M C1 (Iv_coins hx V.1) frS_sI (RC0_coins C1.1) (RW_sI C1.2.1) (fun q h _ _ _ => sA_ne h) (fun _ _ => rfl) (by rw [RM0_RF, sA_at, sR_ne (by omega)]; exact RF_coins (RM0_RF.mp M.1)) _
      by_cases q2 : S.2.2.2.1 2 + v < 999
      · obtain ⟨m', e2, J2⟩ := hm (S.2.2.2.1 2 + v) (by omega)
        rw [iflt_t q2 (by omega), ifle_f q2 (by omega), wS_in (by omega) (by omega), rA_in (by omega) (by omega), sA_at, upd_at, e2, bd2_eq]
        exact ⟨_, _, _, rfl, rfl, J2⟩
      · obtain ⟨m', e2, J2⟩ := hm 999 (by omega)
        rw [iflt_f (by omega) (by omega), ifle_t (by omega) (by omega), wS_in (by omega) (by omega), rA_in (by omega) (by omega), sA_at, upd_at, e2, bd2_eq]
        exact ⟨_, _, _, rfl, rfl, J2⟩
  · rw [if_neg ha]
    unfold inR at ha
    rw [decide_eq_true_eq] at ha
    by_cases q : a < nI 1
    · rw [if_pos q]
      exact Act_same J'
    · rw [if_neg q]
      rw [lt_toInt, nI_toI (by omega)] at q
      rw [if_neg (by rw [le_toInt, nI_toI (by omega)]; omega)]
      exact Act_same J'
theorem A_type {z m : zV} (J : JJ z m) (a : Int32) (ch : Nat) (hch : ch < 65536) (ha : a = nI ch) : ActR z m (f_X3_type z a) (f_X4_type m a) := by
  have J' := J
  obtain ⟨S, hs, sn, hn, tk, tl, tx, V, C, M⟩ := J
  obtain ⟨v1, v2, v3, v4, v5, v6, v7⟩ := V
  obtain ⟨c1, c2, c3, c4, c5, c6, c7, c8, c9⟩ := C
  obtain ⟨m1, m2, m3, m4, m5, m6, m7⟩ := M
  subst ha
  rw [f_X3_type, f_X4_type, c8, m6]
  by_cases q : tl = 60
  · rw [iflt_f (by omega) (by omega), ifeq_t q]
    exact Act_same J'
  · have e1 : (sA z 41 tl (nI ch)).1 40 1 = nI tl := c8
    have e2 : (sA m 8 tl (nI ch)).1 0 11 = nI tl := m6
    rw [iflt_t (by omega) (by omega), ifeq_f q (by omega) (by omega), f_X1_append, c8, wS_in (by omega) (by omega), pS_eq, e1, nI_add, ob_eq, sI_at, wS_in (by omega) (by omega), pS_eq, e2, nI_add, sI_at]
    refine ⟨_, _, _, rfl, rfl, S, hs, sn, hn, tk, tl + 1, upN tx tl ch, ⟨v1, v2, v3, v4, v5, by omega, fun i hi => ?_⟩, ⟨?_, ?_, ?_, c4, fun j hj => ?_, ?_, fun ht => ?_, sI_at, fun i hi => ?_⟩, ⟨?_, ?_, fun j hj => ?_, ?_, fun ht => ?_, sI_at, fun i hi => ?_⟩⟩
    · unfold upN
      split
      · exact hch
      · exact v7 i (by omega)
    · unfold RC0 at *
      rw [sI_ne (by omega), sI_ne (by omega), sI_ne (by omega), sI_ne (by omega), sI_ne (by omega), sI_ne (by omega)]
      show (∀ c, c < 49 → (sA z 41 tl (nI ch)).2.1 1 c = _) ∧ (∀ n, 1 ≤ n → n ≤ 26 → (sA z 41 tl (nI ch)).2.1 2 n = _) ∧ (∀ n, 1 ≤ n → n ≤ 26 → (sA z 41 tl (nI ch)).2.1 3 n = _) ∧ (∀ i, i < S.2.2.2.1 5 → (sA z 41 tl (nI ch)).2.1 5 i = _) ∧ (∀ i j, i < S.2.2.2.1 5 → j < S.2.2.2.2 i 0 → (sA z 41 tl (nI ch)).2.1 4 (i * 7 + j) = _) ∧ _
      rw [sA_ne (by omega), sA_ne (by omega), sA_ne (by omega), sA_ne (by omega), sA_ne (by omega)]
      exact c1
    · refine RW_same (sI_ne (by omega)) ?_ ?_ ?_ c2
      · exact sA_ne (by omega)
      · exact sA_ne (by omega)
      · exact sA_ne (by omega)
    · rw [sI_ne (by omega)]; exact c3
    · obtain ⟨-, -, -, -, x, y⟩ := hP_st c4 (j := j) (by omega)
      have := c5 j hj
      unfold RC at *
      show (∀ c, c < 49 → (sA z 41 tl (nI ch)).2.1 (z.2.2 j + 1) c = _) ∧ (∀ n, 1 ≤ n → n ≤ 26 → (sA z 41 tl (nI ch)).2.1 (z.2.2 j + 2) n = _) ∧ (∀ n, 1 ≤ n → n ≤ 26 → (sA z 41 tl (nI ch)).2.1 (z.2.2 j + 3) n = _) ∧ (∀ i, i < (hs j).2.2.2.1 5 → (sA z 41 tl (nI ch)).2.1 (z.2.2 j + 5) i = _) ∧ (∀ i k, i < (hs j).2.2.2.1 5 → k < (hs j).2.2.2.2 i 0 → (sA z 41 tl (nI ch)).2.1 (z.2.2 j + 4) (i * 7 + k) = _) ∧ (sI _ 40 1 _).1 (z.2.2 j) 5 = _ ∧ (sI _ 40 1 _).1 (z.2.2 j) 6 = _ ∧ (sI _ 40 1 _).1 (z.2.2 j) 7 = _ ∧ (sI _ 40 1 _).1 (z.2.2 j) 8 = _ ∧ (sI _ 40 1 _).1 (z.2.2 j) 9 = _ ∧ (sI _ 40 1 _).1 (z.2.2 j) 10 = _
      rw [sA_ne (by omega), sA_ne (by omega), sA_ne (by omega), sA_ne (by omega), sA_ne (by omega), sI_ne (by omega), sI_ne (by omega), sI_ne (by omega), sI_ne (by omega), sI_ne (by omega), sI_ne (by omega)]
      exact this
    · rw [sI_ne (by omega)]; exact c6
    · have := c7 ht
      unfold RC at *
      show (∀ c, c < 49 → (sA z 41 tl (nI ch)).2.1 31 c = _) ∧ (∀ n, 1 ≤ n → n ≤ 26 → (sA z 41 tl (nI ch)).2.1 32 n = _) ∧ (∀ n, 1 ≤ n → n ≤ 26 → (sA z 41 tl (nI ch)).2.1 33 n = _) ∧ (∀ i, i < sn.2.2.2.1 5 → (sA z 41 tl (nI ch)).2.1 35 i = _) ∧ (∀ i k, i < sn.2.2.2.1 5 → k < sn.2.2.2.2 i 0 → (sA z 41 tl (nI ch)).2.1 34 (i * 7 + k) = _) ∧ (sI _ 40 1 _).1 30 5 = _ ∧ (sI _ 40 1 _).1 30 6 = _ ∧ (sI _ 40 1 _).1 30 7 = _ ∧ (sI _ 40 1 _).1 30 8 = _ ∧ (sI _ 40 1 _).1 30 9 = _ ∧ (sI _ 40 1 _).1 30 10 = _
      rw [sA_ne (by omega), sA_ne (by omega), sA_ne (by omega), sA_ne (by omega), sA_ne (by omega), sI_ne (by omega), sI_ne (by omega), sI_ne (by omega), sI_ne (by omega), sI_ne (by omega), sI_ne (by omega)]
      exact this
    · show (sA z 41 tl (nI ch)).2.1 41 i = _
      rw [sA_at]
      by_cases e : i = tl
      · subst e; rw [upd_at, upN_at]
      · rw [upd_ne e, upN_ne e]; exact c9 i (by omega)
    · exact RM0_same (m := m) (sA_ne (by omega)) m1
    · rw [sI_ne (by omega)]; exact m2
    · exact RM_same (m := m) (sA_ne (by omega)) (m3 j hj)
    · rw [sI_ne (by omega)]; exact m4
    · exact RM_same (m := m) (sA_ne (by omega)) (m5 ht)
    · show (sA m 8 tl (nI ch)).2.1 8 i = _
      rw [sA_at]
      by_cases e : i = tl
      · subst e; rw [upd_at, upN_at]
      · rw [upd_ne e, upN_ne e]; exact m7 i (by omega)
/-- int fields of roles 36 .. 42 are no state's -/
theorem RC_sI {z : zV} {q k r : Nat} {v : Int32} {S : aS} (h : r ≠ q) (R : RC z r S) : RC (sI z q k v) r S := by
  unfold RC at *
  rw [sI_ne (Or.inl h), sI_ne (Or.inl h), sI_ne (Or.inl h), sI_ne (Or.inl h), sI_ne (Or.inl h), sI_ne (Or.inl h)]
  exact R
theorem A_clearText {z m : zV} (J : JJ z m) : ActR z m (f_X3_clearText z) (f_X4_clearText m) := by
  obtain ⟨S, hs, sn, hn, tk, tl, tx, V, C, M⟩ := J
  obtain ⟨v1, v2, v3, v4, v5, v6, v7⟩ := V
  obtain ⟨c1, c2, c3, c4, c5, c6, c7, c8, c9⟩ := C
  obtain ⟨m1, m2, m3, m4, m5, m6, m7⟩ := M
  rw [f_X3_clearText, f_X4_clearText, pS_eq, pS_eq, c8, m6]
  refine ⟨_, _, _, rfl, rfl, S, hs, sn, hn, tk, 0, tx, ⟨v1, v2, v3, v4, v5, by omega, fun i hi => by omega⟩, ⟨RC_0.mp (RC_sI (by omega) (RC_0.mpr c1)), RW_same (sI_ne (by omega)) rfl rfl rfl c2, by rw [sI_ne (by omega)]; exact c3, c4, fun j hj => ?_, by rw [sI_ne (by omega)]; exact c6, fun ht => RC_sI (by omega) (c7 ht), sI_at, fun i hi => by omega⟩, ⟨m1, by rw [sI_ne (by omega)]; exact m2, m3, by rw [sI_ne (by omega)]; exact m4, m5, sI_at, fun i hi => by omega⟩⟩
  obtain ⟨-, -, -, -, x, y⟩ := hP_st c4 (j := j) (by omega)
  exact RC_sI (z := z) (r := z.2.2 j) (by omega) (c5 j hj)
/-- a state comes back: the class -/
theorem X3_bringBack {z : zV} {q : Nat} (hq : isSt q) (h0 : q ≠ 0) {T : aS} (I : Iv T) (R : RC z q T) : ∃ z', f_X3_bringBack z q = some z' ∧ RC0 z' T ∧ RW z' (wl T.1) ∧ frS z z' := by
  obtain ⟨z1, e1, R1, F1⟩ := X0_copyFrom (z := z) (a := 0) (b := q) ⟨rfl, by omega⟩ hq (fun x => h0 x.symm) I R
  obtain ⟨z2, e2, W2, F2⟩ := X2_find (g := T.1) I.1 (z := z1) (RC_0.mp R1).1
  refine ⟨z2, by rw [f_X3_bringBack, gSt_in hq, e1, ob_eq, e2, ob_eq], ?_, W2, frS_tr (frC_S F1) (frW_S F2)⟩
  have := RC_0.mp R1
  unfold RC0 at *
  rw [F2.1 1 (by omega) (by omega) (by omega), F2.1 2 (by omega) (by omega) (by omega), F2.1 3 (by omega) (by omega) (by omega), F2.1 4 (by omega) (by omega) (by omega), F2.1 5 (by omega) (by omega) (by omega), F2.2.1 0 5 (by omega), F2.2.1 0 6 (by omega), F2.2.1 0 7 (by omega), F2.2.1 0 8 (by omega), F2.2.1 0 9 (by omega), F2.2.1 0 10 (by omega)]
  exact this
theorem A_undo {z m : zV} (J : JJ z m) : ActR z m (f_X3_undo z) (f_X4_undo m) := by
  have J' := J
  obtain ⟨S, hs, sn, hn, tk, tl, tx, V, C, M⟩ := J
  obtain ⟨v1, v2, v3, v4, v5, v6, v7⟩ := V
  obtain ⟨c1, c2, c3, c4, c5, c6, c7, c8, c9⟩ := C
  obtain ⟨m1, m2, m3, m4, m5, m6, m7⟩ := M
  rw [f_X3_undo, f_X4_undo, c3, m2]
  by_cases q : hn = 0
  · rw [ifeq_t q, ifeq_t q]
    exact Act_same J'
  · have hlt : hn - 1 < hn := by omega
    obtain ⟨s1, s2, s3, s4, s5, s6⟩ := hP_st c4 (j := hn - 1) (by omega)
    rw [ifeq_f q (by omega) (by omega), ifeq_f q (by omega) (by omega), pS_eq, pS_eq, pk_sub (by omega), sI_at, rP_in (by omega)]
    have C1 : CC (sI z 42 5 (nI (hn - 1))) S hs sn (hn - 1) tk tl tx := by
      refine ⟨RC_0.mp (RC_sI (by omega) (RC_0.mpr c1)), RW_same (sI_ne (by omega)) rfl rfl rfl c2, sI_at, c4, fun j hj => ?_, by rw [sI_ne (by omega)]; exact c6, fun ht => RC_sI (by omega) (c7 ht), by rw [sI_ne (by omega)]; exact c8, c9⟩
      obtain ⟨-, -, -, -, x, y⟩ := hP_st c4 (j := j) (by omega)
      exact RC_sI (z := z) (r := z.2.2 j) (by omega) (c5 j (by omega))
    obtain ⟨z2, e2, R2, W2, F2⟩ := X3_bringBack (z := sI z 42 5 (nI (hn - 1))) s1 s2 (v2 (hn - 1) hlt) (RC_sI (by omega) (c5 (hn - 1) hlt))
    have e2' : f_X3_bringBack (sI z 42 5 (nI (hn - 1))) ((sI z 42 5 (nI (hn - 1))).2.2 (hn - 1)) = some z2 := e2
    rw [e2', ob_eq]
    have C2 := CC_upd (S2 := hs (hn - 1)) (by omega) C1 F2 R2 W2
    -- the model: the block comes back
    have key := lp_up (fun f k => l_X4_undo_22 f (sR (sI m 0 3 (nI (hn - 1))) 1 (pt (m.2.1 1) (fun i => m.2.1 3 (205 * (hn - 1) + i)) 0 k)) (nI k)) (some (nI (hn - 1), sR (sI m 0 3 (nI (hn - 1))) 1 (pt (m.2.1 1) (fun i => m.2.1 3 (205 * (hn - 1) + i)) 0 205))) 205 (fun f => by
      have e : (sR (sI m 0 3 (nI (hn - 1))) 1 (pt (m.2.1 1) (fun i => m.2.1 3 (205 * (hn - 1) + i)) 0 205)).1 0 3 = nI (hn - 1) := sI_at (z := m) (q := 0) (k := 3)
      rw [l_X4_undo_22, ifle_t (by omega) (by omega), e]) (fun f k hk => by
      have e : (sR (sI m 0 3 (nI (hn - 1))) 1 (pt (m.2.1 1) (fun i => m.2.1 3 (205 * (hn - 1) + i)) 0 k)).1 0 3 = nI (hn - 1) := sI_at (z := m) (q := 0) (k := 3)
      have es := pt_s (g := m.2.1 1) (f := fun i => m.2.1 3 (205 * (hn - 1) + i)) (a := 0) (k := k)
      rw [Nat.zero_add] at es
      rw [l_X4_undo_22, ifle_f (by omega) (by omega), e, pk_mul, nI_add, rA_in (by omega) (by omega), sR_ne (by omega), wS_in (by omega) (by omega), sA_R]
      rw [← es, nI_add]
      rfl) 1000 0 (by omega) (by omega)
    rw [pt_0] at key
    have e0 : sR (sI m 0 3 (nI (hn - 1))) 1 (m.2.1 1) = sI m 0 3 (nI (hn - 1)) := sR_same (z := sI m 0 3 (nI (hn - 1)))
    rw [e0] at key
    rw [key]
    have hr : z2.1 42 5 = nI (hn - 1) := C2.2.2.1
    rw [hr]
    refine ⟨_, _, _, rfl, rfl, hs (hn - 1), hs, sn, hn - 1, tk, tl, tx, ⟨v2 _ hlt, fun j hj => v2 j (by omega), v3, by omega, v5, v6, v7⟩, C2, ⟨?_, sI_at (z := m) (q := 0) (k := 3), fun j hj => ?_, ?_, fun ht => ?_, ?_, fun i hi => ?_⟩⟩
    · rw [← RM_0]
      refine RM_cong (v2 _ hlt) (fun i hi => ?_) (m3 (hn - 1) hlt)
      rw [sR_at, Nat.zero_add, pt_in0 hi]
    · exact RM_same (m := m) (sR_ne (z := sI m 0 3 (nI (hn - 1))) (by omega)) (m3 j (by omega))
    · show (sI m 0 3 (nI (hn - 1))).1 0 5 = _
      rw [sI_ne (by omega)]; exact m4
    · exact RM_same (m := m) (sR_ne (z := sI m 0 3 (nI (hn - 1))) (by omega)) (m5 ht)
    · show (sI m 0 3 (nI (hn - 1))).1 0 11 = _
      rw [sI_ne (by omega)]; exact m6
    · rw [sR_ne (by omega)]; exact m7 i hi
theorem A_keep {z m : zV} (J : JJ z m) : ActR z m (f_X3_keep z) (f_X4_keep m) := by
  obtain ⟨S, hs, sn, hn, tk, tl, tx, V, C, M⟩ := J
  obtain ⟨v1, v2, v3, v4, v5, v6, v7⟩ := V
  obtain ⟨c1, c2, c3, c4, c5, c6, c7, c8, c9⟩ := C
  obtain ⟨m1, m2, m3, m4, m5, m6, m7⟩ := M
  obtain ⟨z1, e1, R1, F1⟩ := X0_copyFrom (z := z) (a := 30) (b := 0) ⟨rfl, by omega⟩ ⟨rfl, by omega⟩ (by omega) v1 (RC_0.mpr c1)
  rw [f_X3_keep, f_X4_keep, e1, ob_eq, pS_eq]
  have key := lp_up (fun f k => l_X4_keep_2 f (sR m 4 (pt (m.2.1 4) (m.2.1 1) 0 k)) (nI k)) (some (nI (S.2.2.2.1 2), sI (sR m 4 (pt (m.2.1 4) (m.2.1 1) 0 205)) 0 5 (nI 1))) 205 (fun f => by
    have e : (sI (sR m 4 (pt (m.2.1 4) (m.2.1 1) 0 205)) 0 5 (nI 1)).2.1 1 = m.2.1 1 := sR_ne (z := m) (by omega)
    rw [l_X4_keep_2, ifle_t (by omega) (by omega), pS_eq, rA_in (by omega) (by omega), e, m1.2.2.2.2.2.2.2.2.1]) (fun f k hk => by
    have es := pt_s (g := m.2.1 4) (f := m.2.1 1) (a := 0) (k := k)
    rw [Nat.zero_add] at es
    rw [l_X4_keep_2, ifle_f (by omega) (by omega), rA_in hk (by omega), sR_ne (by omega), wS_in hk (by omega), sA_R, es, nI_add]) 1000 0 (by omega) (by omega)
  rw [pt_0, sR_same] at key
  rw [key]
  have hco : (sI z1 42 6 (nI 1)).1 0 8 = nI (S.2.2.2.1 2) := by
    rw [sI_ne (by omega), F1.2.1 0 8 (by omega)]
    exact c1.2.2.2.2.2.2.2.2.1
  rw [hco]
  refine ⟨_, _, _, rfl, rfl, S, hs, S, hn, 1, tl, tx, ⟨v1, v2, fun _ => v1, v4, by omega, v6, v7⟩, ⟨RC_0.mp (RC_sI (by omega) (RC_frC F1 rfl rfl (by omega) (RC_0.mpr c1))), ?_, ?_, ?_, fun j hj => ?_, sI_at, fun _ => RC_sI (by omega) R1, ?_, fun i hi => ?_⟩, ⟨RM0_same (m := m) (sR_ne (z := m) (by omega)) m1, ?_, fun j hj => RM_same (m := m) (sR_ne (z := m) (by omega)) (m3 j hj), sI_at, fun _ => ?_, ?_, fun i hi => ?_⟩⟩
  · exact RW_same (by rw [sI_ne (by omega), F1.2.1 36 3 (by omega)]) (F1.1 37 (by omega)) (F1.1 38 (by omega)) (F1.1 39 (by omega)) c2
  · rw [sI_ne (by omega), F1.2.1 42 5 (by omega)]; exact c3
  · show hP z1.2.2
    rw [F1.2.2]; exact c4
  · show RC _ (z1.2.2 j) _
    rw [F1.2.2]
    obtain ⟨-, -, y3, y4, y5, y6⟩ := hP_st c4 (j := j) (by omega)
    exact RC_sI (by omega) (RC_frC F1 rfl y4 y3 (c5 j hj))
  · rw [sI_ne (by omega), F1.2.1 40 1 (by omega)]; exact c8
  · show z1.2.1 41 i = _
    rw [F1.1 41 (by omega)]; exact c9 i hi
  · rw [sI_ne (by omega)]; exact m2
  · refine RM_cong v1 (fun i hi => ?_) (RM_0.mpr m1)
    show (sR m 4 _).2.1 4 (0 + i) = _
    rw [sR_at, Nat.zero_add, pt_in0 hi]
  · rw [sI_ne (by omega)]; exact m6
  · show (sR m 4 _).2.1 8 i = _
    rw [sR_ne (by omega)]; exact m7 i hi
theorem A_restore {z m : zV} (J : JJ z m) : ActR z m (f_X3_restore z) (f_X4_restore m) := by
  have J' := J
  obtain ⟨S, hs, sn, hn, tk, tl, tx, V, C, M⟩ := J
  rw [f_X3_restore, f_X4_restore, C.2.2.2.2.2.1, M.2.2.2.1]
  by_cases q : tk = 0
  · rw [ifeq_t q, ifeq_t q]
    exact Act_same J'
  · have q1 : tk = 1 := by have := V.2.2.2.2.1; omega
    obtain ⟨z1, e1, C1⟩ := X3_remember V C
    have Isn := V.2.2.1 q1
    obtain ⟨z2, e2, R2, W2, F2⟩ := X3_bringBack (z := z1) (q := 30) ⟨rfl, by omega⟩ (by omega) Isn (C1.2.2.2.2.2.2.1 q1)
    rw [ifeq_f q (by omega) (by omega), ifeq_f q (by omega) (by omega), e1, ob_eq, e2, ob_eq, X4_remember, ob_eq, R2.2.2.2.2.2.2.2.2.1]
    generalize hm1 : sR m 2 (pt (m.2.1 2) (m.2.1 1) 0 205) = m1
    have h4 : m1.2.1 4 = m.2.1 4 := by subst hm1; exact sR_ne (by omega)
    have Rs := M.2.2.2.2.1 q1
    have Rf : RM0 (sR m1 1 (pt (m1.2.1 1) (m1.2.1 4) 0 205)) sn := by
      rw [← RM_0]
      refine RM_cong Isn (fun i hi => ?_) Rs
      rw [sR_at, Nat.zero_add, pt_in0 hi, h4]
    obtain ⟨m', e3, J3⟩ := Act_done (m := m) (m2 := sR m1 1 (pt (m1.2.1 1) (m1.2.1 4) 0 205)) V M C1 Isn F2 R2 W2 (fun q h _ _ _ => by rw [sR_ne h, hm1]) (fun k _ => by subst hm1; rfl) Rf (nI (sn.2.2.2.1 2))
    have key := lp_up (fun f k => l_X4_restore_16 f (sR m1 1 (pt (m1.2.1 1) (m1.2.1 4) 0 k)) (nI k)) (some (nI (sn.2.2.2.1 2), m')) 205 (fun f => by
      rw [l_X4_restore_16, ifle_t (by omega) (by omega), rA_in (by omega) (by omega), Rf.2.2.2.2.2.2.2.2.1, e3, bd2_eq]) (fun f k hk => by
      have es := pt_s (g := m1.2.1 1) (f := m1.2.1 4) (a := 0) (k := k)
      rw [Nat.zero_add] at es
      rw [l_X4_restore_16, ifle_f (by omega) (by omega), rA_in hk (by omega), sR_ne (by omega), wS_in hk (by omega), sA_R, es, nI_add]) 1000 0 (by omega) (by omega)
    rw [pt_0, sR_same] at key
    rw [key]
    exact ⟨_, _, _, rfl, rfl, J3⟩
