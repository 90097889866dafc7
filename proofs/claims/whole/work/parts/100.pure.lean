/-! THE PURE FUNCTIONS' WORDS: a read and a write behind a test of the index, a division behind none -/
def rA {ρ : Type} (f : Nat → Int32) (n : Nat) (i : Int32) (k : Int32 → Option ρ) : Option ρ := if i < 0 ∨ n ≤ i.toNatClampNeg then none else k (f i.toNatClampNeg)
theorem rA_some {ρ : Type} {f : Nat → Int32} {n : Nat} {i : Int32} {k : Int32 → Option ρ} {r : ρ} (h : rA f n i k = some r) : vp_in i n ∧ k (f i.toNatClampNeg) = some r := by
  unfold rA at h
  split at h
  · cases h
  · exact ⟨by assumption, h⟩
def wA {ρ : Type} (n : Nat) (i : Int32) (k : Nat → Option ρ) : Option ρ := if i < 0 ∨ n ≤ i.toNatClampNeg then none else k i.toNatClampNeg
theorem wA_some {ρ : Type} {n : Nat} {i : Int32} {k : Nat → Option ρ} {r : ρ} (h : wA n i k = some r) : vp_in i n ∧ k i.toNatClampNeg = some r := by
  unfold wA at h
  split at h
  · cases h
  · exact ⟨by assumption, h⟩
def rB {ρ : Type} (v : Int32) (k : Option ρ) : Option ρ := if v = nI 0 ∨ v = nI 1 then k else none
theorem rB_some {ρ : Type} {v : Int32} {k : Option ρ} {r : ρ} (h : rB v k = some r) : narrow .boolean (.int v) = .int v ∧ k = some r := by
  unfold rB at h
  split at h
  · next q => exact ⟨by rcases q with rfl | rfl <;> rfl, h⟩
  · cases h
theorem ob_some {α β : Type} {x : Option α} {k : α → Option β} {r : β} (h : x.bind k = some r) : ∃ v, x = some v ∧ k v = some r := by
  cases x with
  | none => cases h
  | some v => exact ⟨v, rfl, h⟩
/-! pictures: zV holds the int fields by role and place, the arrays by role, and the roles that the array of references holds -/
abbrev zV : Type := (Nat → Nat → Int32) × (Nat → Nat → Int32) × (Nat → Nat)
def sI (σ : zV) (q k : Nat) (v : Int32) : zV := (fun a b => if a = q ∧ b = k then v else σ.1 a b, σ.2.1, σ.2.2)
def sA (σ : zV) (q j : Nat) (v : Int32) : zV := (σ.1, fun a b => if a = q ∧ b = j then v else σ.2.1 a b, σ.2.2)
def sR (σ : zV) (q : Nat) (g : Nat → Int32) : zV := (σ.1, fun a => if a = q then g else σ.2.1 a, σ.2.2)
def sP (σ : zV) (j r : Nat) : zV := (σ.1, σ.2.1, fun b => if b = j then r else σ.2.2 b)
theorem sA_sR {σ : zV} {q j : Nat} {v : Int32} : sA σ q j v = sR σ q (upd (σ.2.1 q) j v) := by
  unfold sA sR
  congr 2
  funext a b
  by_cases h : a = q
  · subst h
    by_cases h2 : b = j <;> simp [upd, h2]
  · simp [h]
def wS {ρ : Type} (σ : zV) (q n : Nat) (i x : Int32) (k : zV → Option ρ) : Option ρ := if i < 0 ∨ n ≤ i.toNatClampNeg then none else k (sA σ q i.toNatClampNeg x)
theorem wS_some {ρ : Type} {σ : zV} {q n : Nat} {i x : Int32} {k : zV → Option ρ} {r : ρ} (h : wS σ q n i x k = some r) : vp_in i n ∧ k (sA σ q i.toNatClampNeg x) = some r := by
  unfold wS at h
  split at h
  · cases h
  · exact ⟨by assumption, h⟩
def pS {ρ : Type} (σ : zV) (q k : Nat) (v : Int32) (K : zV → Option ρ) : Option ρ := K (sI σ q k v)
def cpS {ρ : Type} (σ : zV) (q1 n1 q0 n0 : Nat) (sp dp n : Int32) (k : zV → Option ρ) : Option ρ := if sp < 0 ∨ dp < 0 ∨ n < 0 ∨ n0 < sp.toNatClampNeg + n.toNatClampNeg ∨ n1 < dp.toNatClampNeg + n.toNatClampNeg then none else k (sR σ q1 (va_cpy (σ.2.1 q0) (σ.2.1 q1) sp.toNatClampNeg dp.toNatClampNeg n.toNatClampNeg))
def bd2 {ρ : Type} (x : Option (Int32 × zV)) (k : Int32 → zV → Option ρ) : Option ρ := match x with
  | none => none
  | some q => k q.1 q.2
theorem bd2_some {ρ : Type} {x : Option (Int32 × zV)} {k : Int32 → zV → Option ρ} {r : ρ} (h : bd2 x k = some r) : ∃ v z, x = some (v, z) ∧ k v z = some r := by
  cases x with
  | none => cases h
  | some q => exact ⟨q.1, q.2, rfl, h⟩
theorem cpS_some {ρ : Type} {σ : zV} {q1 n1 q0 n0 : Nat} {sp dp n : Int32} {k : zV → Option ρ} {r : ρ} (h : cpS σ q1 n1 q0 n0 sp dp n k = some r) : ¬ sp < 0 ∧ ¬ dp < 0 ∧ ¬ n < 0 ∧ sp.toNatClampNeg + n.toNatClampNeg ≤ n0 ∧ dp.toNatClampNeg + n.toNatClampNeg ≤ n1 ∧ k (sR σ q1 (va_cpy (σ.2.1 q0) (σ.2.1 q1) sp.toNatClampNeg dp.toNatClampNeg n.toNatClampNeg)) = some r := by
  unfold cpS at h
  split at h
  · cases h
  · next q =>
    simp only [not_or, Nat.not_lt] at q
    exact ⟨q.1, q.2.1, q.2.2.1, q.2.2.2.1, q.2.2.2.2, h⟩
/-- a role of a state: 0, 6, .. 30 -/
def isSt (q : Nat) : Prop := q % 6 = 0 ∧ q < 36
def gSt {ρ : Type} (q : Nat) (k : Option ρ) : Option ρ := if q % 6 = 0 ∧ q < 36 then k else none
theorem gSt_some {ρ : Type} {q : Nat} {k : Option ρ} {r : ρ} (h : gSt q k = some r) : isSt q ∧ k = some r := by
  unfold gSt at h
  split at h
  · next q => exact ⟨q, h⟩
  · cases h
/-- a read of the array of references: a role; and a write -/
def rP {ρ : Type} (σ : zV) (i : Int32) (k : Nat → Option ρ) : Option ρ := if i < 0 ∨ 4 ≤ i.toNatClampNeg then none else k (σ.2.2 i.toNatClampNeg)
theorem rP_some {ρ : Type} {σ : zV} {i : Int32} {k : Nat → Option ρ} {r : ρ} (h : rP σ i k = some r) : vp_in i 4 ∧ k (σ.2.2 i.toNatClampNeg) = some r := by
  unfold rP at h
  split at h
  · cases h
  · exact ⟨by assumption, h⟩
def wP {ρ : Type} (σ : zV) (i : Int32) (q : Nat) (k : zV → Option ρ) : Option ρ := if i < 0 ∨ 4 ≤ i.toNatClampNeg then none else gSt q (k (sP σ i.toNatClampNeg q))
theorem wP_some {ρ : Type} {σ : zV} {i : Int32} {q : Nat} {k : zV → Option ρ} {r : ρ} (h : wP σ i q k = some r) : vp_in i 4 ∧ isSt q ∧ k (sP σ i.toNatClampNeg q) = some r := by
  unfold wP at h
  split at h
  · cases h
  · next q0 =>
    obtain ⟨a, b⟩ := gSt_some h
    exact ⟨q0, a, b⟩
