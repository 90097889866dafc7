/-! ACTS, the class: copying a state, remembering -/
def frC (a : Nat) (z z' : zV) : Prop := (∀ q, q ≤ a ∨ a + 5 < q → z'.2.1 q = z.2.1 q) ∧ (∀ q k, q ≠ a → z'.1 q k = z.1 q k) ∧ z'.2.2 = z.2.2
theorem RC_frC {z z' : zV} {a q : Nat} {S : aS} (F : frC a z z') (ha : a % 6 = 0) (hq : q % 6 = 0) (h : q ≠ a) (R : RC z q S) : RC z' q S := by
  unfold RC at *
  rw [F.1 (q + 1) (by omega), F.1 (q + 2) (by omega), F.1 (q + 3) (by omega), F.1 (q + 4) (by omega), F.1 (q + 5) (by omega), F.2.1 q 5 h, F.2.1 q 6 h, F.2.1 q 7 h, F.2.1 q 8 h, F.2.1 q 9 h, F.2.1 q 10 h]
  exact R
theorem nar_b {n : Nat} (h : n ≤ 1) : vp_nar .boolean (nI n) = nI n := by
  have : n = 0 ∨ n = 1 := by omega
  rcases this with e | e <;> subst e <;> rfl
theorem sI_at {z : zV} {q k : Nat} {v : Int32} : (sI z q k v).1 q k = v := by simp [sI]
theorem sI_ne {z : zV} {q k q' k' : Nat} {v : Int32} (h : q' ≠ q ∨ k' ≠ k) : (sI z q k v).1 q' k' = z.1 q' k' := by
  show (if q' = q ∧ k' = k then v else z.1 q' k') = _
  rw [if_neg (by omega)]
theorem X0_copyFrom {z : zV} {a b : Nat} (ha : isSt a) (hb : isSt b) (hab : a ≠ b) {S : aS} (I : Iv S) (R : RC z b S) : ∃ z', f_X0_copyFrom z a b = some z' ∧ RC z' a S ∧ frC a z z' := by
  obtain ⟨ha1, ha2⟩ := ha
  obtain ⟨hb1, hb2⟩ := hb
  have n1 : b + 1 ≠ a + 1 := by omega
  -- the three rows
  rw [f_X0_copyFrom, gSt_in ⟨ha1, ha2⟩, gSt_in ⟨hb1, hb2⟩, cpS_in (by omega) (by omega) (by omega) (by omega), cpS_in (by omega) (by omega) (by omega) (by omega), cpS_in (by omega) (by omega) (by omega) (by omega)]
  generalize hz1 : sR z (a + 1) (va_cpy (z.2.1 (b + 1)) (z.2.1 (a + 1)) 0 0 49) = z1
  generalize hz2 : sR z1 (a + 4) (va_cpy (z1.2.1 (b + 4)) (z1.2.1 (a + 4)) 0 0 84) = z2
  generalize hz3 : sR z2 (a + 5) (va_cpy (z2.2.1 (b + 5)) (z2.2.1 (a + 5)) 0 0 12) = z3
  have i3 : ∀ q k, z3.1 q k = z.1 q k := fun q k => by subst hz3; subst hz2; subst hz1; rfl
  have p3 : z3.2.2 = z.2.2 := by subst hz3; subst hz2; subst hz1; rfl
  have o3 : ∀ q, q ≠ a + 1 → q ≠ a + 4 → q ≠ a + 5 → z3.2.1 q = z.2.1 q := fun q h1 h2 h3 => by
    subst hz3; subst hz2; subst hz1
    rw [sR_ne h3, sR_ne h2, sR_ne h1]
  have e1 : ∀ i, i < 49 → z3.2.1 (a + 1) i = z.2.1 (b + 1) i := fun i hi => by
    subst hz3; subst hz2; subst hz1
    rw [sR_ne (by omega), sR_ne (by omega), sR_at, pk_cpy_in (by omega) (by omega), Nat.sub_zero, Nat.zero_add]
  have e4 : ∀ i, i < 84 → z3.2.1 (a + 4) i = z.2.1 (b + 4) i := fun i hi => by
    subst hz3; subst hz2; subst hz1
    rw [sR_ne (by omega), sR_at, pk_cpy_in (by omega) (by omega), sR_ne (by omega), Nat.sub_zero, Nat.zero_add]
  have e5 : ∀ i, i < 12 → z3.2.1 (a + 5) i = z.2.1 (b + 5) i := fun i hi => by
    subst hz3; subst hz2; subst hz1
    rw [sR_at, pk_cpy_in (by omega) (by omega), sR_ne (by omega), sR_ne (by omega), Nat.sub_zero, Nat.zero_add]
  clear hz1 hz2 hz3 z1 z2
  -- the loop over the numbers
  have key : ∀ (f k : Nat) (y : zV), 1 ≤ k → k ≤ 27 → 27 - k < f → (∀ q, q ≠ a + 2 → q ≠ a + 3 → y.2.1 q = z3.2.1 q) → (∀ q k, y.1 q k = z.1 q k) → y.2.2 = z.2.2 → (∀ n, 1 ≤ n → n < k → y.2.1 (a + 2) n = nI (ec (S.2.1 n)) ∧ y.2.1 (a + 3) n = nI (S.2.2.1 n)) → ∃ z', l_X0_copyFrom_47 a b f y (nI k) = some z' ∧ RC z' a S ∧ frC a z z' := by
    intro f
    induction f with
    | zero => intro k y _ _ h; omega
    | succ f ih =>
      intro k y hk1 hk hf hy hyi hyp hyn
      rw [l_X0_copyFrom_47]
      by_cases e : k = 27
      · subst e
        rw [iflt_t (by omega) (by omega)]
        simp only [pS_eq]
        obtain ⟨r1, r2, r3, r4, r5, r6, r7, r8, r9, r10, r11⟩ := R
        have h12 := I.2.2.2.2.2.2.1
        refine ⟨_, rfl, ?_, ?_⟩
        · have hba : b ≠ a := fun q => hab q.symm
          refine ⟨fun c hc => ?_, fun n h1 h2 => ?_, fun n h1 h2 => ?_, fun i hi => ?_, fun i j hi hj => ?_, ?_, ?_, ?_, ?_, ?_, ?_⟩
          · show y.2.1 (a + 1) c = _
            rw [hy _ (by omega) (by omega), e1 c hc]
            exact r1 c hc
          · exact (hyn n h1 (by omega)).1
          · exact (hyn n h1 (by omega)).2
          · show y.2.1 (a + 5) i = _
            rw [hy _ (by omega) (by omega), e5 i (by omega)]
            exact r4 i hi
          · have h7 := (I.2.2.2.2.2.2.2 i hi).2.1
            show y.2.1 (a + 4) (i * 7 + j) = _
            rw [hy _ (by omega) (by omega), e4 _ (by omega)]
            exact r5 i j hi hj
          · simp [sI, hyi, r6]
          · simp [sI, hyi, hba, r7]
          · simp [sI, hyi, hba, r8]
          · simp [sI, hyi, hba, r9]
          · simp [sI, hyi, hba, r10]
          · simp [sI, hyi, hba, r11]
        · refine ⟨fun q hq => ?_, fun q k hq => ?_, hyp⟩
          · show y.2.1 q = _
            rw [hy q (by omega) (by omega), o3 q (by omega) (by omega) (by omega)]
          · simp [sI, hq, hyi]
      · have g1 : y.2.1 (b + 2) k = nI (ec (S.2.1 k)) := by
          rw [hy _ (by omega) (by omega), o3 _ (by omega) (by omega) (by omega)]
          exact R.2.1 k hk1 (by omega)
        rw [iflt_f (by omega) (by omega), rA_in (by omega) (by omega), g1, wS_in (by omega) (by omega), rA_in (by omega) (by omega), sA_ne (by omega)]
        have g2 : y.2.1 (b + 3) k = nI (S.2.2.1 k) := by
          rw [hy _ (by omega) (by omega), o3 _ (by omega) (by omega) (by omega)]
          exact R.2.2.1 k hk1 (by omega)
        rw [g2, nar_b (I.2.2.2.2.1 k hk1 (by omega)), wS_in (by omega) (by omega), nI_add]
        refine ih (k + 1) _ (by omega) (by omega) (by omega) (fun q h1 h2 => ?_) (fun q k => hyi q k) hyp (fun n h1 h2 => ?_)
        · rw [sA_ne h2, sA_ne h1]
          exact hy q h1 h2
        · rw [sA_ne (by omega), sA_at, sA_at, sA_ne (by omega)]
          by_cases en : n = k
          · subst en
            rw [upd_at, upd_at]
            exact ⟨rfl, rfl⟩
          · rw [upd_ne en, upd_ne en]
            exact hyn n h1 (by omega)
  exact key 1000 1 z3 (by omega) (by omega) (by omega) (fun _ _ _ => rfl) i3 p3 (fun n h1 h2 => by omega)
/-- the roles of the history: the four states behind the state, each once -/
def hP (P : Nat → Nat) : Prop := (∀ j, j < 4 → P j = 6 ∨ P j = 12 ∨ P j = 18 ∨ P j = 24) ∧ ∀ i j, i < 4 → j < 4 → P i = P j → i = j
theorem hP_st {P : Nat → Nat} (h : hP P) {j : Nat} (hj : j < 4) : isSt (P j) ∧ P j ≠ 0 ∧ P j ≠ 30 ∧ P j % 6 = 0 ∧ P j < 30 ∧ 6 ≤ P j := by
  have := h.1 j hj
  unfold isSt
  omega
/-- the class' part of what holds between the calls -/
def CC (z : zV) (S : aS) (hs : Nat → aS) (sn : aS) (hn tk tl : Nat) (tx : Nat → Nat) : Prop := RC0 z S ∧ RW z (wl S.1) ∧ z.1 42 5 = nI hn ∧ hP z.2.2 ∧ (∀ j, j < hn → RC z (z.2.2 j) (hs j)) ∧ z.1 42 6 = nI tk ∧ (tk = 1 → RC z 30 sn) ∧ z.1 40 1 = nI tl ∧ ∀ i, i < tl → z.2.1 41 i = nI (tx i)
theorem RW_same {z z' : zV} {L : List (Nat × Nat × Nat)} (h0 : z'.1 36 3 = z.1 36 3) (h1 : z'.2.1 37 = z.2.1 37) (h2 : z'.2.1 38 = z.2.1 38) (h3 : z'.2.1 39 = z.2.1 39) (W : RW z L) : RW z' L := by
  unfold RW at *
  rw [h0, h1, h2, h3]
  exact W
/-- what only the state (0 .. 5) and the words (36 .. 39) may change -/
def frS (z z' : zV) : Prop := (∀ q, 6 ≤ q → q ≠ 37 → q ≠ 38 → q ≠ 39 → z'.2.1 q = z.2.1 q) ∧ (∀ q k, q ≠ 0 → q ≠ 36 → z'.1 q k = z.1 q k) ∧ z'.2.2 = z.2.2
theorem frS_tr {a b c : zV} (h1 : frS a b) (h2 : frS b c) : frS a c := ⟨fun q x y w v => (h2.1 q x y w v).trans (h1.1 q x y w v), fun q k x y => (h2.2.1 q k x y).trans (h1.2.1 q k x y), h2.2.2.trans h1.2.2⟩
theorem frS_rf (a : zV) : frS a a := ⟨fun _ _ _ _ _ => rfl, fun _ _ _ _ => rfl, rfl⟩
theorem frW_S {a b : zV} (h : frW a b) : frS a b := ⟨fun q _ x y w => h.1 q x y w, fun q k _ y => h.2.1 q k y, h.2.2⟩
theorem frC_S {a b : zV} (h : frC 0 a b) : frS a b := ⟨fun q x _ _ _ => h.1 q (by omega), fun q k x _ => h.2.1 q k x, h.2.2⟩
theorem RC_frS {z z' : zV} {q : Nat} {S : aS} (F : frS z z') (hq : 6 ≤ q) (hq2 : q ≤ 30) (R : RC z q S) : RC z' q S := by
  unfold RC at *
  rw [F.1 (q + 1) (by omega) (by omega) (by omega) (by omega), F.1 (q + 2) (by omega) (by omega) (by omega) (by omega), F.1 (q + 3) (by omega) (by omega) (by omega) (by omega), F.1 (q + 4) (by omega) (by omega) (by omega) (by omega), F.1 (q + 5) (by omega) (by omega) (by omega) (by omega), F.2.1 q 5 (by omega) (by omega), F.2.1 q 6 (by omega) (by omega), F.2.1 q 7 (by omega) (by omega), F.2.1 q 8 (by omega) (by omega), F.2.1 q 9 (by omega) (by omega), F.2.1 q 10 (by omega) (by omega)]
  exact R
theorem CC_upd {z z' : zV} {S S2 : aS} {hs : Nat → aS} {sn : aS} {hn tk tl : Nat} {tx : Nat → Nat} (h4 : hn ≤ 4) (C : CC z S hs sn hn tk tl tx) (F : frS z z') (R : RC0 z' S2) (W : RW z' (wl S2.1)) : CC z' S2 hs sn hn tk tl tx := by
  obtain ⟨-, -, c, d, e, f, g, h, i⟩ := C
  refine ⟨R, W, by rw [F.2.1 42 5 (by omega) (by omega)]; exact c, by rw [F.2.2]; exact d, fun j hj => ?_, by rw [F.2.1 42 6 (by omega) (by omega)]; exact f, fun ht => RC_frS F (by omega) (by omega) (g ht), by rw [F.2.1 40 1 (by omega) (by omega)]; exact h, fun k hk => by rw [F.1 41 (by omega) (by omega) (by omega) (by omega)]; exact i k hk⟩
  obtain ⟨-, -, -, -, x, y⟩ := hP_st d (j := j) (by omega)
  rw [F.2.2]
  exact RC_frS F y (by omega) (e j hj)
theorem X3_remember {z : zV} {S : aS} {hs : Nat → aS} {sn : aS} {hn tk tl : Nat} {tx : Nat → Nat} (V : VV S hs sn hn tk tl tx) (C : CC z S hs sn hn tk tl tx) : ∃ z', f_X3_remember z = some z' ∧ CC z' S (hpush hs hn S) sn (hlen hn) tk tl tx := by
  obtain ⟨a, b, c, d, e, f, g, h, i⟩ := C
  have h4 := V.2.2.2.1
  rw [f_X3_remember, c]
  -- the end: the state is copied to the place q, which is the n-th in the array
  have fin : ∀ (y : zV) (n q : Nat) (hs' : Nat → aS), n < 4 → y.2.1 = z.2.1 → (∀ q k, q ≠ 42 → y.1 q k = z.1 q k) → y.1 42 6 = z.1 42 6 → y.1 42 5 = nI n → hP y.2.2 → y.2.2 n = q → (∀ j, j < n → RC z (y.2.2 j) (hs' j)) → ∃ z', Option.bind (f_X0_copyFrom y q 0) (fun z_72 => pS z_72 42 5 ((z_72.1 42 5) + (nI 1)) (fun z_82 => some z_82)) = some z' ∧ CC z' S (fun j => if j = n then S else hs' j) sn (n + 1) tk tl tx := by
    intro y n q hs' hn4 hy1 hy2 hy6 hy5 hyP hyq hyh
    obtain ⟨s1, s2, s3, s4, s5, s6⟩ := hP_st hyP hn4
    rw [hyq] at s1 s2 s3 s4 s5 s6
    have Ry : ∀ {r : Nat} {T : aS}, r < 36 → RC z r T → RC y r T := by
      intro r T hr hR
      unfold RC at *
      rw [hy1, hy2 r 5 (by omega), hy2 r 6 (by omega), hy2 r 7 (by omega), hy2 r 8 (by omega), hy2 r 9 (by omega), hy2 r 10 (by omega)]
      exact hR
    obtain ⟨y1, e1, R1, F1⟩ := X0_copyFrom (z := y) s1 (b := 0) ⟨rfl, by omega⟩ s2 V.1 (Ry (by omega) (RC_0.mpr a))
    have hy51 : y1.1 42 5 = nI n := by rw [F1.2.1 42 5 (by omega)]; exact hy5
    rw [e1, ob_eq, pS_eq, hy51, nI_add]
    have hsI : ∀ {r : Nat} {T : aS}, r < 36 → RC y1 r T → RC (sI y1 42 5 (nI (n + 1))) r T := by
      intro r T hr hR
      unfold RC at *
      rw [sI_ne (by omega), sI_ne (by omega), sI_ne (by omega), sI_ne (by omega), sI_ne (by omega), sI_ne (by omega)]
      exact hR
    refine ⟨_, rfl, ?_, ?_, sI_at, ?_, fun j hj => ?_, ?_, fun ht => ?_, ?_, fun k hk => ?_⟩
    · exact RC_0.mp (hsI (by omega) (RC_frC F1 s4 rfl (fun x => s2 x.symm) (Ry (by omega) (RC_0.mpr a))))
    · refine RW_same (z := z) ?_ ?_ ?_ ?_ b
      · rw [sI_ne (by omega), F1.2.1 36 3 (by omega), hy2 36 3 (by omega)]
      · show y1.2.1 37 = _
        rw [F1.1 37 (by omega), hy1]
      · show y1.2.1 38 = _
        rw [F1.1 38 (by omega), hy1]
      · show y1.2.1 39 = _
        rw [F1.1 39 (by omega), hy1]
    · show hP y1.2.2
      rw [F1.2.2]
      exact hyP
    · show RC _ (y1.2.2 j) _
      rw [F1.2.2]
      by_cases ej : j = n
      · subst ej
        rw [hyq]
        try dsimp only
        rw [if_pos rfl]
        exact hsI (by omega) R1
      · try dsimp only
        rw [if_neg ej]
        have hj4 : j < n := by omega
        obtain ⟨-, -, -, t4, t5, -⟩ := hP_st hyP (j := j) (by omega)
        have hne : y.2.2 j ≠ q := fun x => ej (hyP.2 j n (by omega) hn4 (by rw [x, hyq]))
        exact hsI (by omega) (RC_frC F1 s4 t4 hne (Ry (by omega) (hyh j hj4)))
    · rw [sI_ne (by omega), F1.2.1 42 6 (by omega), hy6]
      exact f
    · exact hsI (by omega) (RC_frC F1 s4 rfl (fun x => s3 x.symm) (Ry (by omega) (g ht)))
    · rw [sI_ne (by omega), F1.2.1 40 1 (by omega), hy2 40 1 (by omega)]
      exact h
    · show y1.2.1 41 k = _
      rw [F1.1 41 (by omega), hy1]
      exact i k hk
  by_cases e4 : hn = 4
  · subst e4
    rw [if_pos rfl, rP_in (by omega)]
    -- the places move down
    have loop : ∀ (fu k : Nat) (y : zV), 1 ≤ k → k ≤ 4 → 4 - k < fu → y.1 = z.1 → y.2.1 = z.2.1 → (∀ j, j < 4 → y.2.2 j = if j + 1 < k then z.2.2 (j + 1) else z.2.2 j) → ∃ z', l_X3_remember_17 fu y (z.2.2 0) (nI k) = some z' ∧ CC z' S (hpush hs 4 S) sn (hlen 4) tk tl tx := by
      intro fu
      induction fu with
      | zero => intro k y _ _ h; omega
      | succ fu ih =>
        intro k y hk1 hk hf hy1 hy2 hyP
        rw [l_X3_remember_17]
        by_cases ek : k = 4
        · subst ek
          obtain ⟨s1, -⟩ := hP_st d (j := 0) (by omega)
          have h5 : (sP y 3 (z.2.2 0)).1 42 5 = nI 4 := by rw [show (sP y 3 (z.2.2 0)).1 = y.1 from rfl, hy1]; exact c
          rw [ifle_t (by omega) (by omega), wP_in (by omega) s1, pS_eq, h5, pk_sub (by omega)]
          have h6 : (sI (sP y 3 (z.2.2 0)) 42 5 (nI (4 - 1))).1 42 5 = nI 3 := sI_at
          rw [h6, rP_in (by omega)]
          have hPn : ∀ j, j < 4 → (sI (sP y 3 (z.2.2 0)) 42 5 (nI (4 - 1))).2.2 j = if j = 3 then z.2.2 0 else z.2.2 (j + 1) := by
            intro j hj
            show (if j = 3 then z.2.2 0 else y.2.2 j) = _
            by_cases e3 : j = 3
            · rw [if_pos e3, if_pos e3]
            · rw [if_neg e3, if_neg e3, hyP j hj, if_pos (by omega)]
          have hPP : hP (sI (sP y 3 (z.2.2 0)) 42 5 (nI (4 - 1))).2.2 := by
            refine ⟨fun j hj => ?_, fun i j hi hj hij => ?_⟩
            · rw [hPn j hj]
              split
              · exact d.1 0 (by omega)
              · exact d.1 (j + 1) (by omega)
            · rw [hPn i hi, hPn j hj] at hij
              split at hij <;> split at hij
              · omega
              · have := d.2 _ _ (by omega) (by omega) hij
                omega
              · have := d.2 _ _ (by omega) (by omega) hij
                omega
              · have := d.2 _ _ (by omega) (by omega) hij
                omega
          have := fin (sI (sP y 3 (z.2.2 0)) 42 5 (nI (4 - 1))) 3 (z.2.2 0) (fun j => hs (j + 1)) (by omega) hy2 (fun q k hq => by rw [sI_ne (by omega)]; show y.1 q k = _; rw [hy1]) (by rw [sI_ne (by omega)]; show y.1 42 6 = _; rw [hy1]) sI_at hPP (by rw [hPn 3 (by omega), if_pos rfl]) (fun j hj => by rw [hPn j (by omega), if_neg (by omega)]; exact e (j + 1) (by omega))
          rw [hPn 3 (by omega), if_pos rfl]
          exact this
        · obtain ⟨s1, -⟩ := hP_st d (j := k) (by omega)
          have hk2 := hyP k (by omega)
          rw [if_neg (by omega)] at hk2
          rw [ifle_f (by omega) (by omega), rP_in (by omega), pk_sub (by omega), wP_in (by omega) (by rw [hk2]; exact s1), nI_add]
          refine ih (k + 1) _ (by omega) (by omega) (by omega) hy1 hy2 (fun j hj => ?_)
          show (if j = k - 1 then y.2.2 k else y.2.2 j) = _
          by_cases ej : j = k - 1
          · rw [if_pos ej, hk2, if_pos (by omega), show j + 1 = k by omega]
          · rw [if_neg ej, hyP j hj]
            by_cases el : j + 1 < k
            · rw [if_pos el, if_pos (by omega)]
            · rw [if_neg el, if_neg (by omega)]
    exact loop 1000 1 z (by omega) (by omega) (by omega) rfl rfl (fun j hj => by rw [if_neg (by omega)])
  · rw [ifeq_f e4 (by omega) (by omega), rP_in (by omega)]
    have := fin z hn (z.2.2 hn) hs (by omega) rfl (fun _ _ _ => rfl) rfl c d rfl e
    have e1 : hpush hs hn S = fun j => if j = hn then S else hs j := by unfold hpush; rw [if_neg e4]
    have e2 : hlen hn = hn + 1 := by unfold hlen; rw [if_neg e4]
    rw [e1, e2]
    exact this
