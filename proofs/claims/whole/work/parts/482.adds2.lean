/-! THE ACTS (9): addWords: the model, and both -/
theorem b2_or (x y : Bool) : (if b2 x = nI 0 then (if b2 y = nI 0 then nI 0 else nI 1) else nI 1) = b2 (x || y) := by cases x <;> cases y <;> rfl
theorem X4_onList37 {m : zV} {T : aS} (R : RM0 m T) (I : Iv T) {tl : Nat} {tx : Nat → Nat} (G : GT tx tl) (Q : TM m tx tl) {p i : Nat} (hp : p < tl) (hs : isSt0 tx p = true) (hi : i < T.2.2.2.1 5) (K : Int32 → Int32 → Int32 → Int32 → Option Int32) (x : Int32) : l_X4_isOnList_37 m K 1000 (nI p) (nI (wlen tx tl p)) x (nI i) (b2 (T.2.2.2.2 i 0 == wlen tx tl p)) (nI 0) = j_X4_isOnList_84 m K (nI p) (nI (wlen tx tl p)) x (nI i) (b2 (swB T tx tl p i)) := by
  have h60 := G.1
  obtain ⟨g1, g2, g3⟩ := G.2.2 p hp hs
  have h7 := (I.2.2.2.2.2.2.2 i hi).2.1
  unfold swB
  by_cases q : T.2.2.2.2 i 0 = wlen tx tl p
  · rw [beq_iff_eq.mpr q, Bool.true_and]
    refine lp_allr (L := fun f j => l_X4_isOnList_37 m K f (nI p) (nI (wlen tx tl p)) x (nI i) (nI 1) (nI j)) (p := fun j => tx (p + j) == ec (T.2.2.2.2 i (j + 1))) (n := wlen tx tl p) (r := fun b => j_X4_isOnList_84 m K (nI p) (nI (wlen tx tl p)) x (nI i) (b2 b)) (fun f => ?_) (fun f j hj h => ?_) (fun f j hj h => ?_) 1000 (by omega)
    · rw [l_X4_isOnList_37, ifle_t (by omega) (by omega)]; rfl
    · rw [beq_eq_false_iff_ne] at h
      have hin := wlen_in hj
      have hg := g3 j hj
      have lj := ll_in I hi (j := j) (by omega)
      rw [ec_pos (by omega)] at h
      rw [l_X4_isOnList_37, ifle_f hj (by omega), ifeq_f (a := 1) (b := 0) (by omega) (by omega) (by omega), X4_letterOfListed R I hi (by omega), ob_eq, nI_add, rA_in (by omega) (by omega), Q.2 _ hin.1, pk_sub hg.1, eM_pos (by omega), ifeq_f (by omega) (by omega) (by omega), l_X4_isOnList_37]
      by_cases e : wlen tx tl p ≤ j + 1
      · rw [nI_add, ifle_t e (by omega)]; rfl
      · rw [nI_add, ifle_f (by omega) (by omega), if_pos rfl]; rfl
    · rw [beq_iff_eq] at h
      have hin := wlen_in hj
      have hg := g3 j hj
      have lj := ll_in I hi (j := j) (by omega)
      rw [ec_pos (by omega)] at h
      rw [l_X4_isOnList_37, ifle_f hj (by omega), ifeq_f (a := 1) (b := 0) (by omega) (by omega) (by omega), X4_letterOfListed R I hi (by omega), ob_eq, nI_add, rA_in (by omega) (by omega), Q.2 _ hin.1, pk_sub hg.1, eM_pos (by omega), ifeq_t (by omega), nI_add]
  · rw [beq_eq_false_iff_ne.mpr q, Bool.false_and, l_X4_isOnList_37, ifle_f (by omega) (by omega), if_pos (show b2 false = nI 0 from rfl)]
theorem X4_isOnListT {m : zV} {T : aS} (R : RM0 m T) (I : Iv T) {tl : Nat} {tx : Nat → Nat} (G : GT tx tl) (Q : TM m tx tl) {p : Nat} (hp : p < tl) (hs : isSt0 tx p = true) : f_X4_isOnList m (nI p) (nI (wlen tx tl p)) = some (b2 (onL T tx tl p)) := by
  have h12 := I.2.2.2.2.2.2.1
  have hw := (G.2.2 p hp hs).2.1
  rw [f_X4_isOnList]
  unfold onL
  refine lp_up (fun f i => l_X4_isOnList_5 m f (nI p) (nI (wlen tx tl p)) (b2 (anyB (fun i => swB T tx tl p i) i)) (nI i)) _ (T.2.2.2.1 5) (fun f => ?_) (fun f i hi => ?_) 1000 0 (by omega) (by omega)
  · rw [l_X4_isOnList_5, rA_in (by omega) (by omega), R.2.2.2.2.2.1, ifle_t (by omega) (by omega), rB_b2]
  · have h7 := (I.2.2.2.2.2.2.2 i hi).2.1
    have e := X4_onList37 R I G Q hp hs hi (l_X4_isOnList_5 m f) (b2 (anyB (fun i => swB T tx tl p i) i))
    have hj : j_X4_isOnList_84 m (l_X4_isOnList_5 m f) (nI p) (nI (wlen tx tl p)) (b2 (anyB (fun i => swB T tx tl p i) i)) (nI i) (b2 (swB T tx tl p i)) = l_X4_isOnList_5 m f (nI p) (nI (wlen tx tl p)) (b2 (anyB (fun i => swB T tx tl p i) (i + 1))) (nI (i + 1)) := by
      rw [j_X4_isOnList_84, nI_add, show anyB (fun i => swB T tx tl p i) (i + 1) = (anyB (fun i => swB T tx tl p i) i || swB T tx tl p i) from rfl]
      cases anyB (fun i => swB T tx tl p i) i <;> cases swB T tx tl p i <;> rfl
    rw [l_X4_isOnList_5, rA_in (by omega) (by omega), R.2.2.2.2.2.1, ifle_f hi (by omega), X4_sizeOf R I hi, ob_eq]
    by_cases q : T.2.2.2.2 i 0 = wlen tx tl p
    · rw [ifeq_t q]
      rw [beq_iff_eq.mpr q] at e
      rw [show nI 1 = b2 true from rfl, e, hj]
    · rw [ifeq_f q (by omega) (by omega)]
      rw [beq_eq_false_iff_ne.mpr q] at e
      have e' : l_X4_isOnList_37 m (l_X4_isOnList_5 m f) 1000 (nI p) (nI (wlen tx tl p)) (b2 (anyB (fun i => swB T tx tl p i) i)) (nI i) (nI 0) (nI 0) = _ := e
      rw [e', hj]
theorem X4_scan {m : zV} {tl : Nat} {tx : Nat → Nat} (h60 : tl ≤ 60) (hc : ∀ i, i < tl → tx i < 65536) (Q : TM m tx tl) {p : Nat} (hp : p < tl) (K : zV → Int32 → Option (Int32 × zV)) : l_X4_addsAll_12 K 1000 m (nI p) (nI 0) = j_X4_addsAll_41 K m (nI p) (nI (wlen tx tl p)) := by
  refine lp_fst (L := fun f j => l_X4_addsAll_12 K f m (nI p) (nI j)) (p := fun j => decide (tl ≤ p + j) || tx (p + j) == 44) (n := 61) (r := fun j => j_X4_addsAll_41 K m (nI p) (nI j)) (fun f => ?_) (fun f j hj h => ?_) (fun f j hj h => ?_) 1000 (by omega)
  · rw [l_X4_addsAll_12, nI_add, Q.1, ifle_t (by omega) (by omega)]
  · rw [l_X4_addsAll_12, nI_add, Q.1]
    by_cases q : tl ≤ p + j
    · rw [ifle_t q (by omega)]
    · rw [decide_eq_false q, Bool.false_or, beq_iff_eq] at h
      rw [ifle_f (by omega) (by omega), rA_in (by omega) (by omega), Q.2 _ (by omega), ifeq_t h]
  · rw [Bool.or_eq_false_iff, decide_eq_false_iff_not, beq_eq_false_iff_ne] at h
    have := hc (p + j) (by omega)
    rw [l_X4_addsAll_12, nI_add, Q.1, ifle_f (by omega) (by omega), rA_in (by omega) (by omega), Q.2 _ (by omega), ifeq_f h.2 (by omega) (by omega), nI_add]
theorem X4_adds88 {y : zV} {T : aS} (R : RF (y.2.1 1) T) (I : Iv T) {tl : Nat} {tx : Nat → Nat} (G : GT tx tl) (Q : TM y tx tl) {p : Nat} (hp : p < tl) (hs : isSt0 tx p = true) (h12 : T.2.2.2.1 5 < 12) (K : zV → Int32 → Option (Int32 × zV)) : ∃ y', l_X4_addsAll_88 K 1000 (sA y 1 (109 + 8 * T.2.2.2.1 5) (nI (wlen tx tl p))) (nI p) (nI (wlen tx tl p)) (nI (109 + 8 * T.2.2.2.1 5)) (nI 0) = K y' (nI (p + (wlen tx tl p + 1))) ∧ RM0 y' (apS T tx tl p) ∧ (∀ q, q ≠ 1 → y'.2.1 q = y.2.1 q) ∧ y'.1 = y.1 := by
  have h60 := G.1
  have hls := I.2.2.2.2.2.2.2
  obtain ⟨g1, g2, g3⟩ := G.2.2 p hp hs
  obtain ⟨r1, r2, r3, r4, r5, r6, r7, r8, r9, r10, r11⟩ := R
  generalize hN : T.2.2.2.1 5 = N at *
  generalize hn : wlen tx tl p = n at *
  generalize hF : upd (y.2.1 1) (109 + 8 * N) (nI n) = F
  generalize hw : (fun j => eM (tx (p + j) - 96)) = w
  have Fo : ∀ x, x ≠ 109 + 8 * N → F x = y.2.1 1 x := fun x h => by rw [← hF, upd_ne h]
  refine ⟨sA (sR y 1 (pt F w (109 + 8 * N + 1) n)) 1 106 (nI (N + 1)), ?_, ?_, fun q h => by rw [sA_ne h, sR_ne h], rfl⟩
  · have key := lp_up (fun f k => l_X4_addsAll_88 K f (sR y 1 (pt F w (109 + 8 * N + 1) k)) (nI p) (nI n) (nI (109 + 8 * N)) (nI k)) (K (sA (sR y 1 (pt F w (109 + 8 * N + 1) n)) 1 106 (nI (N + 1))) (nI (p + (n + 1)))) n (fun f => by
      rw [l_X4_addsAll_88, ifle_t (by omega) (by omega), rA_in (by omega) (by omega), sR_at, pt_out (by omega), Fo _ (by omega), r6, wS_in (by omega) (by omega), nI_add, nI_add, nI_add]) (fun f k hk => by
      have hin := wlen_in (tx := tx) (tl := tl) (p := p) (j := k) (by omega)
      have hg := g3 k hk
      have e : nI (tx (p + k) - 97) = w k := by
        rw [← hw]
        show _ = eM (tx (p + k) - 96)
        rw [eM_pos (by omega), show tx (p + k) - 96 - 1 = tx (p + k) - 97 by omega]
      rw [l_X4_addsAll_88, ifle_f hk (by omega), nI_add, nI_add, nI_add, nI_add, rA_in (by omega) (by omega), sR_ne (by omega), Q.2 _ hin.1, pk_sub hg.1, wS_in (by omega) (by omega), sA_R, e, pt_s]) 1000 0 (by omega) (by omega)
    rw [pt_0, ← hF, ← sA_sR] at key
    rw [← hF]
    exact key
  · rw [RM0_RF, sA_at, sR_at]
    refine ⟨fun c h => ?_, fun k h1 h2 => ?_, fun k h1 h2 => ?_, fun i h => ?_, fun i j h h' => ?_, ?_, ?_, ?_, ?_, ?_, ?_⟩
    · rw [upd_ne (by omega), pt_out (by omega), Fo _ (by omega)]; exact r1 c h
    · rw [upd_ne (by omega), pt_out (by omega), Fo _ (by omega)]; exact r2 k h1 h2
    · rw [upd_ne (by omega), pt_out (by omega), Fo _ (by omega)]; exact r3 k h1 h2
    · rw [apS_sz, hN] at h
      rw [upd_ne (by omega), pt_out (by omega)]
      by_cases q : i = N
      · subst q
        rw [← hF, upd_at]
        have := apS_at0 (T := T) (tx := tx) (tl := tl) (p := p)
        rw [hN, hn] at this
        rw [this]
      · rw [Fo _ (by omega), apS_ne (by omega)]; exact r4 i (by omega)
    · rw [apS_sz, hN] at h
      by_cases q : i = N
      · subst q
        have e0 := apS_at0 (T := T) (tx := tx) (tl := tl) (p := p)
        have e1 := apS_ats (T := T) (tx := tx) (tl := tl) (p := p) (j := j)
        rw [hN, hn] at e0
        rw [hN] at e1
        rw [e0] at h'
        rw [upd_ne (by omega), pt_in h', ← hw, e1]
      · rw [apS_ne (by omega)] at h' ⊢
        have := (hls i (by omega)).2.1
        rw [upd_ne (by omega), pt_out (by omega), Fo _ (by omega)]; exact r5 i j (by omega) h'
    · rw [upd_at, apS_sz, hN]
    · rw [upd_ne (by omega), pt_out (by omega), Fo _ (by omega)]; exact r7
    · rw [upd_ne (by omega), pt_out (by omega), Fo _ (by omega)]; exact r8
    · rw [upd_ne (by omega), pt_out (by omega), Fo _ (by omega)]; exact r9
    · rw [upd_ne (by omega), pt_out (by omega), Fo _ (by omega)]; exact r10
    · rw [upd_ne (by omega), pt_out (by omega), Fo _ (by omega)]; exact r11
def atP (S : aS) (tx : Nat → Nat) (tl p : Nat) (y : zV) : Prop := (p < tl ∧ isSt0 tx p = true ∧ RM0 y (SS S tx tl p) ∧ S.2.2.2.1 5 + cn (newB S tx tl) p ≤ 12) ∨ (tl ≤ p ∧ RM0 y (SS S tx tl tl) ∧ S.2.2.2.1 5 + cn (newB S tx tl) tl ≤ 12)
theorem atP_next {S : aS} {tx : Nat → Nat} {tl p : Nat} (G : GT tx tl) (hp : p < tl) (hs : isSt0 tx p = true) {y : zV} (R : RM0 y (SS S tx tl (p + 1))) (h : S.2.2.2.1 5 + cn (newB S tx tl) (p + 1) ≤ 12) : p + (wlen tx tl p + 1) ≤ tl + 1 ∧ atP S tx tl (p + (wlen tx tl p + 1)) y := by
  have hle := wlen_le (tx := tx) (Nat.le_of_lt hp)
  have hend := wlen_end (tx := tx) (tl := tl) (p := p) G.1
  have hg := (G.2.2 p hp hs).1
  have hin : ∀ q, p < q → q ≤ p + wlen tx tl p → newB S tx tl q = false := fun q h1 h2 => new_in h1 h2
  generalize wlen tx tl p = n at *
  refine ⟨by omega, ?_⟩
  by_cases q : p + n = tl
  · obtain ⟨a, b⟩ := SS_cong (S := S) (tx := tx) (tl := tl) (a := p + 1) (n - 1) (fun q h1 h2 => hin q (by omega) (by omega))
    rw [show p + 1 + (n - 1) = tl by omega] at a b
    exact Or.inr ⟨by omega, by rw [a]; exact R, by rw [b]; exact h⟩
  · have he : tx (p + n) = 44 := by
      rcases hend with e | e
      · omega
      · exact e
    obtain ⟨a, b⟩ := SS_cong (S := S) (tx := tx) (tl := tl) (a := p + 1) n (fun q h1 h2 => hin q (by omega) (by omega))
    rw [show p + 1 + n = p + (n + 1) by omega] at a b
    by_cases q2 : p + (n + 1) < tl
    · exact Or.inl ⟨q2, isSt0_iff.mpr (Or.inr (by rw [show p + (n + 1) - 1 = p + n by omega]; exact he)), by rw [a]; exact R, by rw [b]; exact h⟩
    · have e : p + (n + 1) = tl := by omega
      rw [e] at a b ⊢
      exact Or.inr ⟨Nat.le_refl _, by rw [a]; exact R, by rw [b]; exact h⟩
theorem X4_addsAllP {m1 : zV} {S : aS} (I : Iv S) {tl : Nat} {tx : Nat → Nat} (G : GT tx tl) (Q : TM m1 tx tl) : ∀ (f p : Nat) (y : zV), tl + 1 - p < f → p ≤ tl + 1 → atP S tx tl p y → (∀ q, q ≠ 1 → y.2.1 q = m1.2.1 q) → y.1 = m1.1 → ∃ y', l_X4_addsAll_2 f y (nI p) = some (b2 (decide (S.2.2.2.1 5 + cn (newB S tx tl) tl ≤ 12)), y') ∧ (S.2.2.2.1 5 + cn (newB S tx tl) tl ≤ 12 → RM0 y' (SS S tx tl tl)) ∧ (∀ q, q ≠ 1 → y'.2.1 q = m1.2.1 q) ∧ y'.1 = m1.1 := by
  have h60 := G.1
  intro f
  induction f with
  | zero => intro p y h1; omega
  | succ f ih =>
    intro p y h1 h2 P F1 F2
    have Qy : TM y tx tl := ⟨by rw [F2]; exact Q.1, fun i h => by rw [F1 8 (by omega)]; exact Q.2 i h⟩
    rw [l_X4_addsAll_2, Qy.1]
    rcases P with ⟨hp, hs, R, hc⟩ | ⟨hp, R, hc⟩
    · have Ip := Iv_SS I G p (by omega) hc
      have hno := newB_on (S := S) G (Nat.le_of_lt hp)
      rw [hs, Bool.true_and] at hno
      have hsz := SS_sz S tx tl p
      have hwl := wlen_le (tx := tx) (Nat.le_of_lt hp)
      have hmono := cn_mono (p := newB S tx tl) (show p + 1 ≤ tl from hp)
      rw [ifle_f hp (by omega), X4_scan h60 G.2.1 Qy hp, j_X4_addsAll_41, X4_isOnListT R Ip G Qy hp hs, ob_eq, ifb2]
      by_cases ho : onL (SS S tx tl p) tx tl p = true
      · rw [ho] at hno
        have hno' : newB S tx tl p = false := hno
        obtain ⟨a, b⟩ := atP_next (S := S) G hp hs (y := y) (by rw [SS_f hno']; exact R) (by rw [cn_f hno']; exact hc)
        rw [if_pos ho, nI_add, nI_add]
        exact ih _ y (by omega) a b F1 F2
      · have ho' : onL (SS S tx tl p) tx tl p = false := by simpa using ho
        rw [ho'] at hno
        have hno' : newB S tx tl p = true := hno
        rw [cn_t hno'] at hmono
        rw [if_neg ho, rA_in (by omega) (by omega), R.2.2.2.2.2.1, hsz]
        by_cases q : S.2.2.2.1 5 + cn (newB S tx tl) p = 12
        · rw [ifeq_t q, rB0, decide_eq_false (by omega)]
          exact ⟨y, rfl, fun h => absurd h (by omega), F1, F2⟩
        · obtain ⟨y', e, R', F3, F4⟩ := X4_adds88 (RM0_RF.mp R) Ip G Qy hp hs (by rw [hsz]; omega) (l_X4_addsAll_2 f)
          rw [hsz] at e
          obtain ⟨a, b⟩ := atP_next (S := S) G hp hs (y := y') (by rw [SS_t hno']; exact R') (by rw [cn_t hno']; omega)
          rw [ifeq_f q (by omega) (by omega), rA_in (by omega) (by omega), R.2.2.2.2.2.1, hsz, pk_mul, nI_add, wS_in (by omega) (by omega), e]
          exact ih _ y' (by omega) a b (fun q h => by rw [F3 q h]; exact F1 q h) (by rw [F4]; exact F2)
    · rw [ifle_t hp (by omega), rB1, decide_eq_true hc]
      exact ⟨y, rfl, fun _ => R, F1, F2⟩
theorem X4_addWords29 (y : zV) : l_X4_addWords_29 1000 y (nI 0) = some (-3, sR y 1 (pt (y.2.1 1) (y.2.1 2) 0 205)) := by
  have key := lp_up (fun f k => l_X4_addWords_29 f (sR y 1 (pt (y.2.1 1) (y.2.1 2) 0 k)) (nI k)) (some (-3, sR y 1 (pt (y.2.1 1) (y.2.1 2) 0 205))) 205 (fun f => by rw [l_X4_addWords_29, ifle_t (by omega) (by omega)]) (fun f k hk => by
    have e := pt_s (g := y.2.1 1) (f := y.2.1 2) (a := 0) (k := k)
    rw [Nat.zero_add] at e
    rw [l_X4_addWords_29, ifle_f (by omega) (by omega), rA_in hk (by omega), sR_ne (by omega), wS_in hk (by omega), sA_R, e, nI_add]) 1000 0 (by omega) (by omega)
  rw [pt_0, sR_same] at key
  exact key
theorem MM_of {m y : zV} {S : aS} {hs : Nat → aS} {sn : aS} {hn tk tl : Nat} {tx : Nat → Nat} (M : MM m S hs sn hn tk tl tx) (R : RM0 y S) (h1 : ∀ q, q ≠ 1 → q ≠ 2 → y.2.1 q = m.2.1 q) (h2 : y.1 = m.1) : MM y S hs sn hn tk tl tx := by
  obtain ⟨m1, m2, m3, m4, m5, m6, m7⟩ := M
  exact ⟨R, by rw [h2]; exact m2, fun j hj => RM_same (h1 3 (by omega) (by omega)) (m3 j hj), by rw [h2]; exact m4, fun ht => RM_same (h1 4 (by omega) (by omega)) (m5 ht), by rw [h2]; exact m6, fun i hi => by rw [h1 8 (by omega) (by omega)]; exact m7 i hi⟩
theorem A_addWords {z m : zV} (J : JJ z m) : ActR z m (f_X3_addWords z) (f_X4_addWords m) := by
  have J' := J
  obtain ⟨S, hs, sn, hn, tk, tl, tx, V, C, M⟩ := J
  have I := V.1
  have h12 := I.2.2.2.2.2.2.1
  have X : TX z tx tl := C.2.2.2.2.2.2.2
  have Q : TM m tx tl := M.2.2.2.2.2
  have h60 := V.2.2.2.2.2.1
  have hch := V.2.2.2.2.2.2
  rw [f_X3_addWords, f_X4_addWords]
  rcases T_wordsFault h60 hch X Q with ⟨p, hp, e1, e2⟩ | ⟨e1, e2, G⟩
  · rw [e1, ob_eq, iflt_f (by omega) (by omega), e2, ob_eq, if_neg (m5_nI (by omega))]
    exact Act_same J'
  · have hcn := cn_le (newB S tx tl) tl
    rw [e1, ob_eq, if_pos (by decide), X3_newWords C.1 I h60 hch X, ob_eq, C.1.2.2.2.2.2.1, nI_add, e2, ob_eq, if_pos rfl, X4_remember, ob_eq]
    generalize hm1 : sR m 2 (pt (m.2.1 2) (m.2.1 1) 0 205) = m1
    have o1 : ∀ q, q ≠ 2 → m1.2.1 q = m.2.1 q := fun q h => by rw [← hm1, sR_ne h]
    have i1 : m1.1 = m.1 := by rw [← hm1]; rfl
    have k2 : m1.2.1 2 = pt (m.2.1 2) (m.2.1 1) 0 205 := by rw [← hm1, sR_at]
    have Q1 : TM m1 tx tl := ⟨by rw [i1]; exact Q.1, fun i h => by rw [o1 8 (by omega)]; exact Q.2 i h⟩
    have R1 : RM0 m1 S := RM0_same (o1 1 (by omega)) M.1
    have P0 : atP S tx tl 0 m1 := by
      by_cases q : 0 < tl
      · exact Or.inl ⟨q, rfl, R1, h12⟩
      · have q0 : tl = 0 := by omega
        subst q0
        exact Or.inr ⟨Nat.le_refl 0, R1, h12⟩
    obtain ⟨y, e3, R3, F3, F4⟩ := X4_addsAllP I G Q1 1000 0 m1 (by omega) (by omega) P0 (fun _ _ => rfl) rfl
    rw [f_X4_addsAll, e3, bd2_eq, ifb2]
    by_cases qc : S.2.2.2.1 5 + cn (newB S tx tl) tl ≤ 12
    · have Ry := R3 qc
      have hsz := SS_sz S tx tl tl
      have ky : y.2.1 2 106 = nI (S.2.2.2.1 5) := by
        rw [F3 2 (by omega), k2, pt_in0 (by omega)]; exact M.1.2.2.2.2.2.1
      rw [ifle_t qc (by omega), if_pos (decide_eq_true qc), rA_in (by omega) (by omega), Ry.2.2.2.2.2.1, hsz, rA_in (by omega) (by omega), ky, pk_sub (by omega), show S.2.2.2.1 5 + cn (newB S tx tl) tl - S.2.2.2.1 5 = cn (newB S tx tl) tl by omega]
      by_cases q0 : cn (newB S tx tl) tl = 0
      · rw [ifeq_t q0, ifeq_t q0]
        have hno : ∀ q, 0 ≤ q → q < 0 + tl → newB S tx tl q = false := fun q _ h => by
          cases hb : newB S tx tl q with
          | false => rfl
          | true =>
            have := cn_pos.mpr ⟨q, (show q < tl by omega), hb⟩
            omega
        have hSS := (SS_cong (S := S) (tx := tx) (tl := tl) (a := 0) tl hno).1
        rw [Nat.zero_add] at hSS
        rw [hSS] at Ry
        exact ⟨_, _, _, rfl, rfl, S, hs, sn, hn, tk, tl, tx, V, C, MM_of M Ry (fun q h h2 => by rw [F3 q h, o1 q h2]) (by rw [F4, i1])⟩
      · obtain ⟨z1, e4, C1⟩ := X3_remember V C
        obtain ⟨z2, e5, R5, F5⟩ := X3_addWords52 I G C1.2.2.2.2.2.2.2 qc (nI (cn (newB S tx tl) tl)) 1000 0 z1 (by omega) (by omega) C1.1 (frC_rf _)
        have W2 : RW z2 (wl (SS S tx tl tl).1) := by rw [SS_1]; exact RW_frC F5 C1.2.1
        obtain ⟨m', e6, J2⟩ := Act_done V M C1 (Iv_SS I G tl (Nat.le_refl _) qc) (frC_S F5) R5 W2 (m2 := y) (fun q h _ _ _ => by rw [F3 q h, hm1]) (fun k _ => by rw [F4, i1]) Ry (nI (cn (newB S tx tl) tl))
        rw [ifeq_f q0 (by omega) (by omega), ifeq_f q0 (by omega) (by omega), e4, ob_eq, e5, e6, bd2_eq]
        exact ⟨_, _, _, rfl, rfl, J2⟩
    · rw [ifle_f (by omega) (by omega), if_neg (fun h => qc (of_decide_eq_true h)), X4_addWords29]
      have Rb : RM0 (sR y 1 (pt (y.2.1 1) (y.2.1 2) 0 205)) S := by
        rw [← RM_0]
        refine RM_cong I (fun i hi => ?_) (RM_0.mpr M.1)
        rw [sR_at, Nat.zero_add, pt_in0 hi, F3 2 (by omega), k2, pt_in0 hi]
      exact ⟨_, _, _, rfl, rfl, S, hs, sn, hn, tk, tl, tx, V, C, MM_of M Rb (fun q h h2 => by rw [sR_ne h, F3 q h, o1 q h2]) (by show y.1 = m.1; rw [F4, i1])⟩
