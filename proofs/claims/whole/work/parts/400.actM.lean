/-! ACTS, the model: what remembering, copying, the history do -/
theorem sR_at {z : zV} {q : Nat} {f : Nat → Int32} : (sR z q f).2.1 q = f := by simp [sR]
theorem sR_ne {z : zV} {q q' : Nat} {f : Nat → Int32} (h : q' ≠ q) : (sR z q f).2.1 q' = z.2.1 q' := by simp [sR, h]
theorem sR_sR {z : zV} {q : Nat} {f g : Nat → Int32} : sR (sR z q f) q g = sR z q g := by
  unfold sR
  congr 2
  funext a
  by_cases h : a = q <;> simp [h]
theorem sR_same {z : zV} {q : Nat} : sR z q (z.2.1 q) = z := by
  unfold sR
  obtain ⟨a, b, c⟩ := z
  congr 2
  funext x
  by_cases h : x = q
  · subst h; simp
  · simp [h]
theorem sA_R {z : zV} {q j : Nat} {f : Nat → Int32} {v : Int32} : sA (sR z q f) q j v = sR z q (upd f j v) := by rw [sA_sR, sR_at, sR_sR]
theorem sA_at {z : zV} {q j : Nat} {v : Int32} : (sA z q j v).2.1 q = upd (z.2.1 q) j v := by rw [sA_sR, sR_at]
theorem sA_ne {z : zV} {q q' j : Nat} {v : Int32} (h : q' ≠ q) : (sA z q j v).2.1 q' = z.2.1 q' := by rw [sA_sR, sR_ne h]
theorem upd_at {f : Nat → Int32} {j : Nat} {v : Int32} : upd f j v j = v := if_pos rfl
theorem upd_ne {f : Nat → Int32} {i j : Nat} {v : Int32} (h : i ≠ j) : upd f j v i = f i := if_neg h
/-- a row over another, at the place a, n long -/
def pt (g f : Nat → Int32) (a n : Nat) : Nat → Int32 := fun i => if a ≤ i ∧ i < a + n then f (i - a) else g i
theorem pt_0 {g f : Nat → Int32} {a : Nat} : pt g f a 0 = g := by
  funext i
  unfold pt
  rw [if_neg (by omega)]
theorem pt_s {g f : Nat → Int32} {a k : Nat} : upd (pt g f a k) (a + k) (f k) = pt g f a (k + 1) := by
  funext i
  unfold pt upd
  by_cases h : i = a + k
  · subst h
    rw [if_pos rfl, if_pos (by omega)]
    congr 1
    omega
  · rw [if_neg h]
    try dsimp only
    by_cases h2 : a ≤ i ∧ i < a + k
    · rw [if_pos h2, if_pos (by omega)]
    · rw [if_neg h2, if_neg (by omega)]
theorem pt_in {g f : Nat → Int32} {a n i : Nat} (h : i < n) : pt g f a n (a + i) = f i := by
  unfold pt
  rw [if_pos (by omega)]
  congr 1
  omega
theorem pt_in0 {g f : Nat → Int32} {n i : Nat} (h : i < n) : pt g f 0 n i = f i := by
  unfold pt
  rw [if_pos (by omega)]
  rfl
theorem pt_out {g f : Nat → Int32} {a n i : Nat} (h : i < a ∨ a + n ≤ i) : pt g f a n i = g i := by
  unfold pt
  rw [if_neg (by omega)]
theorem RM_cong {m m' : zV} {q q' o o' : Nat} {S : aS} (I : Iv S) (h : ∀ i, i < 205 → m'.2.1 q' (o' + i) = m.2.1 q (o + i)) (R : RM m q o S) : RM m' q' o' S := by
  obtain ⟨r1, r2, r3, r4, r5, r6, r7, r8, r9, r10, r11⟩ := R
  have h12 := I.2.2.2.2.2.2.1
  refine ⟨fun c hc => by rw [h c (by omega)]; exact r1 c hc, fun n h1 h2 => ?_, fun n h1 h2 => ?_, fun i hi => ?_, fun i j hi hj => ?_, ?_, ?_, ?_, ?_, ?_, ?_⟩
  · have := h (51 + n) (by omega)
    rw [Nat.add_assoc, this, ← Nat.add_assoc]
    exact r2 n h1 h2
  · have := h (78 + n) (by omega)
    rw [Nat.add_assoc, this, ← Nat.add_assoc]
    exact r3 n h1 h2
  · have := h (109 + 8 * i) (by omega)
    rw [Nat.add_assoc, this, ← Nat.add_assoc]
    exact r4 i hi
  · have h7 := (I.2.2.2.2.2.2.2 i hi).2.1
    have := h (109 + 8 * i + 1 + j) (by omega)
    rw [show o' + 109 + 8 * i + 1 + j = o' + (109 + 8 * i + 1 + j) by omega, this, show o + (109 + 8 * i + 1 + j) = o + 109 + 8 * i + 1 + j by omega]
    exact r5 i j hi hj
  · rw [h 106 (by omega)]; exact r6
  · rw [h 49 (by omega)]; exact r7
  · rw [h 50 (by omega)]; exact r8
  · rw [h 105 (by omega)]; exact r9
  · rw [h 107 (by omega)]; exact r10
  · rw [h 108 (by omega)]; exact r11
theorem X4_remember (m : zV) : f_X4_remember m = some (sR m 2 (pt (m.2.1 2) (m.2.1 1) 0 205)) := by
  rw [f_X4_remember]
  have h0 : m = sR m 2 (pt (m.2.1 2) (m.2.1 1) 0 0) := by rw [pt_0, sR_same]
  have key := lp_up (fun f k => l_X4_remember_2 f (sR m 2 (pt (m.2.1 2) (m.2.1 1) 0 k)) (nI k)) (some (sR m 2 (pt (m.2.1 2) (m.2.1 1) 0 205))) 205 (fun f => by rw [l_X4_remember_2, ifle_t (by omega) (by omega)]) (fun f k hk => by
    have e := pt_s (g := m.2.1 2) (f := m.2.1 1) (a := 0) (k := k)
    rw [Nat.zero_add] at e
    rw [l_X4_remember_2, ifle_f (by omega) (by omega), rA_in hk (by omega), sR_ne (by omega), wS_in hk (by omega), sA_R, e, nI_add]) 1000 0 (by omega) (by omega)
  rw [pt_0, sR_same] at key
  exact key
def hpush (hs : Nat → aS) (hn : Nat) (S : aS) : Nat → aS := if hn = 4 then (fun j => if j = 3 then S else hs (j + 1)) else (fun j => if j = hn then S else hs j)
def hlen (hn : Nat) : Nat := if hn = 4 then 4 else hn + 1
theorem hlen_le {hn : Nat} (h : hn ≤ 4) : hlen hn ≤ 4 := by unfold hlen; split <;> omega
theorem hpush_Iv {hs : Nat → aS} {hn : Nat} {S : aS} (h4 : hn ≤ 4) (h : ∀ j, j < hn → Iv (hs j)) (I : Iv S) : ∀ j, j < hlen hn → Iv (hpush hs hn S j) := by
  intro j hj
  unfold hpush hlen at *
  by_cases e : hn = 4
  · rw [if_pos e] at *
    try dsimp only
    split
    · exact I
    · exact h _ (by omega)
  · rw [if_neg e] at *
    try dsimp only
    split
    · exact I
    · exact h _ (by omega)
theorem X4_acted51 {m : zV} {hn : Nat} (hh : m.1 0 3 = nI hn) (h3 : hn ≤ 3) (r : Int32) : l_X4_acted_51 1000 m r (nI 0) = some (r, sI (sR m 3 (pt (m.2.1 3) (m.2.1 2) (205 * hn) 205)) 0 3 (nI (hn + 1))) := by
  have key := lp_up (fun f k => l_X4_acted_51 f (sR m 3 (pt (m.2.1 3) (m.2.1 2) (205 * hn) k)) r (nI k)) (some (r, sI (sR m 3 (pt (m.2.1 3) (m.2.1 2) (205 * hn) 205)) 0 3 (nI (hn + 1)))) 205 (fun f => by
    have e : (sR m 3 (pt (m.2.1 3) (m.2.1 2) (205 * hn) 205)).1 0 3 = nI hn := hh
    rw [l_X4_acted_51, ifle_t (by omega) (by omega), pS_eq, e, nI_add]) (fun f k hk => by
    have e : (sR m 3 (pt (m.2.1 3) (m.2.1 2) (205 * hn) k)).1 0 3 = nI hn := hh
    rw [l_X4_acted_51, ifle_f (by omega) (by omega), rA_in hk (by omega), sR_ne (by omega), e, pk_mul, nI_add, wS_in (by omega) (by omega), sA_R, pt_s, nI_add]) 1000 0 (by omega) (by omega)
  rw [pt_0, sR_same] at key
  exact key
/-- acted: what is kept comes into the history -/
theorem X4_acted {m : zV} {hn : Nat} {hs : Nat → aS} {So : aS} (h4 : hn ≤ 4) (hh : m.1 0 3 = nI hn) (hI : ∀ j, j < hn → Iv (hs j)) (hR : ∀ j, j < hn → RM m 3 (205 * j) (hs j)) (Io : Iv So) (Ro : RM m 2 0 So) (r : Int32) : ∃ m', f_X4_acted m r = some (r, m') ∧ m'.1 0 3 = nI (hlen hn) ∧ (∀ j, j < hlen hn → RM m' 3 (205 * j) (hpush hs hn So j)) ∧ (∀ q, q ≠ 3 → m'.2.1 q = m.2.1 q) ∧ (∀ k, k ≠ 3 → m'.1 0 k = m.1 0 k) := by
  rw [f_X4_acted, hh]
  by_cases e : hn = 4
  · subst e
    rw [if_pos rfl]
    have hsh := lp_up (fun f k => l_X4_acted_10 (l_X4_acted_51 1000) f (sR m 3 (fun i => if i < k then m.2.1 3 (i + 205) else m.2.1 3 i)) r (nI k)) (l_X4_acted_51 1000 (sI (sR m 3 (fun i => if i < 615 then m.2.1 3 (i + 205) else m.2.1 3 i)) 0 3 (nI 3)) r (nI 0)) 615 (fun f => by
      have e : (sR m 3 (fun i => if i < 615 then m.2.1 3 (i + 205) else m.2.1 3 i)).1 0 3 = nI 4 := hh
      rw [l_X4_acted_10, ifle_t (by omega) (by omega), pS_eq, e, pk_sub (by omega)]) (fun f k hk => by
      have e1 : upd (fun i => if i < k then m.2.1 3 (i + 205) else m.2.1 3 i) k (m.2.1 3 (k + 205)) = (fun i => if i < k + 1 then m.2.1 3 (i + 205) else m.2.1 3 i) := by
        funext i
        unfold upd
        by_cases h : i = k
        · subst h
          rw [if_pos rfl, if_pos (by omega)]
        · rw [if_neg h]
          try dsimp only
          by_cases h2 : i < k
          · rw [if_pos h2, if_pos (by omega)]
          · rw [if_neg h2, if_neg (by omega)]
      rw [l_X4_acted_10, ifle_f (by omega) (by omega), nI_add, rA_in (by omega) (by omega), sR_at, if_neg (show ¬ k + 205 < k by omega), wS_in (by omega) (by omega), sA_R, e1, nI_add]) 1000 0 (by omega) (by omega)
    have e0 : (fun i => if i < 0 then m.2.1 3 (i + 205) else m.2.1 3 i) = m.2.1 3 := by
      funext i
      rw [if_neg (by omega)]
    rw [e0, sR_same] at hsh
    rw [hsh]
    have h51 := X4_acted51 (m := sI (sR m 3 (fun i => if i < 615 then m.2.1 3 (i + 205) else m.2.1 3 i)) 0 3 (nI 3)) (hn := 3) (by simp [sI]) (by omega) r
    rw [h51]
    refine ⟨_, rfl, by simp [sI, hlen], fun j hj => ?_, fun q hq => by simp [sI, sR, hq], fun k hk => by simp [sI, sR, hk]⟩
    unfold hlen at hj
    rw [if_pos rfl] at hj
    unfold hpush
    rw [if_pos rfl]
    try dsimp only
    by_cases j3 : j = 3
    · subst j3
      rw [if_pos rfl]
      refine RM_cong Io (fun i hi => ?_) Ro
      show pt _ ((sR m 3 _).2.1 2) (205 * 3) 205 (205 * 3 + i) = _
      rw [pt_in hi, sR_ne (by omega), Nat.zero_add]
    · rw [if_neg j3]
      refine RM_cong (hI (j + 1) (by omega)) (fun i hi => ?_) (hR (j + 1) (by omega))
      show pt ((sR m 3 _).2.1 3) _ (205 * 3) 205 (205 * j + i) = _
      rw [pt_out (by omega), sR_at, if_pos (by omega), show 205 * j + i + 205 = 205 * (j + 1) + i by omega]
  · rw [ifeq_f e (by omega) (by omega), X4_acted51 hh (by omega) r]
    refine ⟨_, rfl, by simp [sI, hlen, e], fun j hj => ?_, fun q hq => by simp [sI, sR, hq], fun k hk => by simp [sI, sR, hk]⟩
    unfold hlen at hj
    rw [if_neg e] at hj
    unfold hpush
    rw [if_neg e]
    try dsimp only
    by_cases jn : j = hn
    · subst jn
      rw [if_pos rfl]
      refine RM_cong Io (fun i hi => ?_) Ro
      show pt _ (m.2.1 2) (205 * j) 205 (205 * j + i) = _
      rw [pt_in hi, Nat.zero_add]
    · rw [if_neg jn]
      refine RM_cong (hI j (by omega)) (fun i hi => ?_) (hR j (by omega))
      show pt (m.2.1 3) _ (205 * hn) 205 (205 * j + i) = _
      rw [pt_out (by omega)]
/-- the model's part of what holds between the calls -/
def MM (m : zV) (S : aS) (hs : Nat → aS) (sn : aS) (hn tk tl : Nat) (tx : Nat → Nat) : Prop := RM0 m S ∧ m.1 0 3 = nI hn ∧ (∀ j, j < hn → RM m 3 (205 * j) (hs j)) ∧ m.1 0 5 = nI tk ∧ (tk = 1 → RM m 4 0 sn) ∧ m.1 0 11 = nI tl ∧ ∀ i, i < tl → m.2.1 8 i = nI (tx i)
def VV (S : aS) (hs : Nat → aS) (sn : aS) (hn tk tl : Nat) (tx : Nat → Nat) : Prop := Iv S ∧ (∀ j, j < hn → Iv (hs j)) ∧ (tk = 1 → Iv sn) ∧ hn ≤ 4 ∧ tk ≤ 1 ∧ tl ≤ 60 ∧ ∀ i, i < tl → tx i < 65536
theorem RM_same {m m' : zV} {q o : Nat} {S : aS} (h : m'.2.1 q = m.2.1 q) (R : RM m q o S) : RM m' q o S := by
  unfold RM at *
  rw [h]
  exact R
theorem RM0_same {m m' : zV} {S : aS} (h : m'.2.1 1 = m.2.1 1) (R : RM0 m S) : RM0 m' S := by
  unfold RM0 at *
  rw [h]
  exact R
theorem MM_frV {m m' : zV} {S : aS} {hs : Nat → aS} {sn : aS} {hn tk tl : Nat} {tx : Nat → Nat} (M : MM m S hs sn hn tk tl tx) (F : frV m m') : MM m' S hs sn hn tk tl tx := by
  obtain ⟨a, b, c, d, e, f, g⟩ := M
  refine ⟨RM_frV a F, by rw [F.2 0 3 (by omega)]; exact b, fun j hj => RM_same (F.1 3 (by omega) (by omega) (by omega)) (c j hj), by rw [F.2 0 5 (by omega)]; exact d, fun h => RM_same (F.1 4 (by omega) (by omega) (by omega)) (e h), by rw [F.2 0 11 (by omega)]; exact f, fun i hi => by rw [F.1 8 (by omega) (by omega) (by omega)]; exact g i hi⟩
/-- the model's act: remembered at m, changed at the array of the state alone (and the words) to m2, then acted -/
theorem X4_act {m m2 : zV} {S S2 : aS} {hs : Nat → aS} {sn : aS} {hn tk tl : Nat} {tx : Nat → Nat} (V : VV S hs sn hn tk tl tx) (M : MM m S hs sn hn tk tl tx) (h1 : ∀ q, q ≠ 1 → q ≠ 5 → q ≠ 6 → q ≠ 7 → m2.2.1 q = (sR m 2 (pt (m.2.1 2) (m.2.1 1) 0 205)).2.1 q) (h2 : ∀ k, k ≠ 9 → m2.1 0 k = m.1 0 k) (R2 : RM0 m2 S2) (r : Int32) : ∃ m', f_X4_acted m2 r = some (r, m') ∧ MM m' S2 (hpush hs hn S) sn (hlen hn) tk tl tx := by
  obtain ⟨a, b, c, d, e, f, g⟩ := M
  have hk : RM m2 2 0 S := by
    refine RM_cong V.1 (fun i hi => ?_) (RM_0.mpr a)
    rw [h1 2 (by omega) (by omega) (by omega) (by omega), sR_at, Nat.zero_add, pt_in0 hi]
  have h3 : m2.2.1 3 = m.2.1 3 := by rw [h1 3 (by omega) (by omega) (by omega) (by omega), sR_ne (by omega)]
  have h4 : m2.2.1 4 = m.2.1 4 := by rw [h1 4 (by omega) (by omega) (by omega) (by omega), sR_ne (by omega)]
  have h8 : m2.2.1 8 = m.2.1 8 := by rw [h1 8 (by omega) (by omega) (by omega) (by omega), sR_ne (by omega)]
  obtain ⟨m', e1, e2, e3, e4, e5⟩ := X4_acted (m := m2) V.2.2.2.1 (by rw [h2 3 (by omega)]; exact b) V.2.1 (fun j hj => RM_same h3 (c j hj)) V.1 hk r
  refine ⟨m', e1, RM0_same (e4 1 (by omega)) R2, e2, e3, by rw [e5 5 (by omega), h2 5 (by omega)]; exact d, fun h => RM_same (by rw [e4 4 (by omega), h4]) (e h), by rw [e5 11 (by omega), h2 11 (by omega)]; exact f, fun i hi => by rw [e4 8 (by omega), h8]; exact g i hi⟩
