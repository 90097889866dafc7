/-! THE START: both worlds as the constructors leave them -/
theorem wl_0 : wl (fun _ => 0) = [] := by decide +kernel
def zS0 : zV := (fun q k => if q < 36 then (if k = 6 then nI 7 else if k = 7 then nI 3 else if k = 8 then nI 30 else nI 0) else nI 0, fun _ _ => nI 0, fun j => 6 * (j + 1))
theorem CC_0 : CC zS0 S0 (fun _ => S0) S0 0 0 0 (fun _ => 0) := by
  refine ⟨⟨fun c h => rfl, fun n h1 h2 => rfl, fun n h1 h2 => rfl, fun i h => absurd h (Nat.not_lt_zero i), fun i j h => absurd h (Nat.not_lt_zero i), rfl, rfl, rfl, rfl, rfl, rfl⟩, ?_, rfl, ⟨fun j hj => ?_, fun i j hi hj e => ?_⟩, fun j hj => absurd hj (Nat.not_lt_zero j), rfl, fun h => absurd h (by decide), rfl, fun i hi => absurd hi (Nat.not_lt_zero i)⟩
  · rw [show wl S0.1 = [] from wl_0]
    exact ⟨rfl, fun w t h => by simp at h⟩
  · show 6 * (j + 1) = 6 ∨ 6 * (j + 1) = 12 ∨ 6 * (j + 1) = 18 ∨ 6 * (j + 1) = 24
    omega
  · have e' : 6 * (i + 1) = 6 * (j + 1) := e
    omega
theorem VV_0 : VV S0 (fun _ => S0) S0 0 0 0 (fun _ => 0) := ⟨Iv_S0, fun _ _ => Iv_S0, fun _ => Iv_S0, by decide, by decide, by decide, fun i hi => absurd hi (Nat.not_lt_zero i)⟩
/-- the model's world, whatever its other rows hold -/
theorem JJ_0 {m : zV} (R : RF (m.2.1 1) S0) (h3 : m.1 0 3 = nI 0) (h5 : m.1 0 5 = nI 0) (h11 : m.1 0 11 = nI 0) : JJ zS0 m := ⟨S0, _, S0, 0, 0, 0, _, VV_0, CC_0, R, h3, fun j hj => absurd hj (Nat.not_lt_zero j), h5, fun h => absurd h (by decide), h11, fun i hi => absurd hi (Nat.not_lt_zero i)⟩
/-- the model's row as its constructor fills it, before it forgets the guesses -/
def gM : Nat → Int32 := fun i => if i < 49 then -1 else if i = 49 then nI 7 else if i = 50 then nI 3 else if i = 105 then nI 30 else nI 0
theorem JJ_made {m : zV} (h1 : m.2.1 1 = gM) (hi : ∀ k, m.1 0 k = nI 0) : ∃ m', f_X4_forgets m = some m' ∧ JJ zS0 m' ∧ (∀ q, q ≠ 1 → m'.2.1 q = m.2.1 q) ∧ m'.1 = m.1 := by
  have key : ∀ (f k : Nat) (y : zV), k ≤ 27 → 27 - k < f → (∀ q, q ≠ 1 → y.2.1 q = m.2.1 q) → y.1 = m.1 → (∀ i, i < 51 ∨ 105 ≤ i → y.2.1 1 i = gM i) → (∀ n, n < k → y.2.1 1 (51 + n) = -1 ∧ y.2.1 1 (78 + n) = nI 0) → ∃ m', l_X4_forgets_2 f y (nI k) = some m' ∧ RF (m'.2.1 1) S0 ∧ (∀ q, q ≠ 1 → m'.2.1 q = m.2.1 q) ∧ m'.1 = m.1 := by
    intro f
    induction f with
    | zero => intro k y h1 h2; omega
    | succ f ih =>
      intro k y h1 h2 ha hb hc hd
      by_cases q : k = 27
      · subst q
        rw [l_X4_forgets_2, iflt_t (by omega) (by omega)]
        refine ⟨y, rfl, ⟨fun c h => ?_, fun n h4 h5 => (hd n (by omega)).1, fun n h4 h5 => (hd n (by omega)).2, fun i h => absurd h (Nat.not_lt_zero i), fun i j h => absurd h (Nat.not_lt_zero i), by rw [hc _ (by omega)]; rfl, by rw [hc _ (by omega)]; rfl, by rw [hc _ (by omega)]; rfl, by rw [hc _ (by omega)]; rfl, by rw [hc _ (by omega)]; rfl, by rw [hc _ (by omega)]; rfl⟩, ha, hb⟩
        rw [hc _ (by omega)]
        exact if_pos h
      · rw [l_X4_forgets_2, iflt_f (by omega) (by omega), nI_add, wS_in (by omega) (by omega), nI_add, wS_in (by omega) (by omega), nI_add]
        refine ih (k + 1) _ (by omega) (by omega) (fun q h4 => ?_) hb (fun i h4 => ?_) (fun n h4 => ?_)
        · rw [sA_ne h4, sA_ne h4]; exact ha q h4
        · rw [sA_at, upd_ne (by omega), sA_at, upd_ne (by omega)]; exact hc i h4
        · rw [sA_at, sA_at, upd_ne (by omega)]
          by_cases e : n = k
          · subst e
            rw [upd_at, upd_at]
            exact ⟨rfl, rfl⟩
          · rw [upd_ne (by omega), upd_ne (by omega), upd_ne (by omega)]
            exact hd n (by omega)
  obtain ⟨m', e, R, a, b⟩ := key 1000 0 m (by omega) (by omega) (fun _ _ => rfl) rfl (fun i _ => by rw [h1]) (fun n h => by omega)
  exact ⟨m', e, JJ_0 R (by rw [b]; exact hi 3) (by rw [b]; exact hi 5) (by rw [b]; exact hi 11), a, b⟩
