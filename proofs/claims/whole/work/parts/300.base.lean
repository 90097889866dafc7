/-! BASE: numbers, the words of the pure functions at known values, loops, counts -/
theorem ifle_t {α : Sort _} {a b : Nat} {x y : α} (h : a ≤ b) (hb : b < 2147483648) : (if nI a ≤ nI b then x else y) = x := if_pos (nI_le h (by omega))
theorem ifle_f {α : Sort _} {a b : Nat} {x y : α} (h : b < a) (ha : a < 2147483648) : (if nI a ≤ nI b then x else y) = y := if_neg (fun q => by
  have := (nI_leI (a := a) (b := b) (by omega) (by omega)).mp q
  omega)
theorem iflt_t {α : Sort _} {a b : Nat} {x y : α} (h : a < b) (hb : b < 2147483648) : (if nI a < nI b then x else y) = x := if_pos (nI_lt h (by omega))
theorem iflt_f {α : Sort _} {a b : Nat} {x y : α} (h : b ≤ a) (ha : a < 2147483648) : (if nI a < nI b then x else y) = y := if_neg (nI_nlt h (by omega))
theorem ifeq_t {α : Sort _} {a b : Nat} {x y : α} (h : a = b) : (if nI a = nI b then x else y) = x := if_pos (by rw [h])
theorem ifeq_f {α : Sort _} {a b : Nat} {x y : α} (h : a ≠ b) (ha : a < 2147483648) (hb : b < 2147483648) : (if nI a = nI b then x else y) = y := if_neg (fun q => h ((nI_eq (by omega) (by omega)).mp q))
theorem nI_toI {n : Nat} (h : n < 2147483648) : (nI n).toInt = (n : Int) := nI_toInt (by omega)
theorem m_toInt : (-1 : Int32).toInt = -1 := by decide
theorem nI_neM {a : Nat} (h : a < 2147483648) {v : Int32} (hv : v.toInt < 0) : nI a ≠ v := fun q => by
  have := nI_toI h
  rw [q] at this
  omega
theorem rA_in {ρ : Type} {f : Nat → Int32} {n i : Nat} {k : Int32 → Option ρ} (h : i < n) (hn : n < 2147483648) : rA f n (nI i) k = k (f i) := by
  unfold rA
  rw [if_neg (nI_in h (by omega)), nI_clamp (by omega)]
theorem wS_in {ρ : Type} {z : zV} {q n i : Nat} {x : Int32} {k : zV → Option ρ} (h : i < n) (hn : n < 2147483648) : wS z q n (nI i) x k = k (sA z q i x) := by
  unfold wS
  rw [if_neg (nI_in h (by omega)), nI_clamp (by omega)]
theorem rP_in {ρ : Type} {z : zV} {i : Nat} {k : Nat → Option ρ} (h : i < 4) : rP z (nI i) k = k (z.2.2 i) := by
  unfold rP
  rw [if_neg (nI_in h (by omega)), nI_clamp (by omega)]
theorem gSt_in {ρ : Type} {q : Nat} {k : Option ρ} (h : isSt q) : gSt q k = k := if_pos h
theorem wP_in {ρ : Type} {z : zV} {i q : Nat} {k : zV → Option ρ} (h : i < 4) (hq : isSt q) : wP z (nI i) q k = k (sP z i q) := by
  unfold wP
  rw [if_neg (nI_in h (by omega)), nI_clamp (by omega), gSt_in hq]
theorem rB0 {ρ : Type} {k : Option ρ} : rB (nI 0) k = k := if_pos (Or.inl rfl)
theorem rB1 {ρ : Type} {k : Option ρ} : rB (nI 1) k = k := if_pos (Or.inr rfl)
theorem pS_eq {ρ : Type} {z : zV} {q k : Nat} {v : Int32} {K : zV → Option ρ} : pS z q k v K = K (sI z q k v) := rfl
theorem bd2_eq {ρ : Type} {v : Int32} {z : zV} {k : Int32 → zV → Option ρ} : bd2 (some (v, z)) k = k v z := rfl
theorem ob_eq {α β : Type} {v : α} {k : α → Option β} : Option.bind (some v) k = k v := rfl
theorem cpS_in {ρ : Type} {z : zV} {q1 n1 q0 n0 s d n : Nat} {k : zV → Option ρ} (h0 : s + n ≤ n0) (h1 : d + n ≤ n1) (hn : n0 < 2147483648) (hm : n1 < 2147483648) : cpS z q1 n1 q0 n0 (nI s) (nI d) (nI n) k = k (sR z q1 (va_cpy (z.2.1 q0) (z.2.1 q1) s d n)) := by
  unfold cpS
  have a1 : (nI s).toNatClampNeg = s := nI_clamp (by omega)
  have a2 : (nI d).toNatClampNeg = d := nI_clamp (by omega)
  have a3 : (nI n).toNatClampNeg = n := nI_clamp (by omega)
  rw [a1, a2, a3, if_neg]
  intro q
  rcases q with q | q | q | q | q
  · exact nI_pos (by omega) q
  · exact nI_pos (by omega) q
  · exact nI_pos (by omega) q
  · omega
  · omega
/-- a loop that counts up: nothing but its step and its end -/
theorem lp_up {α : Type} (L : Nat → Nat → α) (r : α) (N : Nat) (hx : ∀ f, L (f + 1) N = r) (hs : ∀ f k, k < N → L (f + 1) k = L f (k + 1)) : ∀ f k, k ≤ N → N - k < f → L f k = r := by
  intro f
  induction f with
  | zero => intro k _ h; omega
  | succ f ih =>
    intro k hk hf
    rcases Nat.lt_or_ge k N with h | h
    · rw [hs f k h]
      exact ih (k + 1) h (by omega)
    · have : k = N := by omega
      subst this
      exact hx f
/-- the same from a place on, with what holds at each place -/
theorem lp_inv {α : Type} (L : Nat → Nat → α) (P : α → Prop) (N k0 : Nat) (hx : ∀ f, P (L (f + 1) N)) (hs : ∀ f k, k0 ≤ k → k < N → P (L f (k + 1)) → P (L (f + 1) k)) : ∀ f k, k0 ≤ k → k ≤ N → N - k < f → P (L f k) := by
  intro f
  induction f with
  | zero => intro k _ _ h; omega
  | succ f ih =>
    intro k h0 hk hf
    rcases Nat.lt_or_ge k N with h | h
    · exact hs f k h0 h (ih (k + 1) (by omega) h (by omega))
    · have : k = N := by omega
      subst this
      exact hx f
def cn (p : Nat → Bool) : Nat → Nat
  | 0 => 0
  | n + 1 => cn p n + (if p n = true then 1 else 0)
theorem cn_t {p : Nat → Bool} {n : Nat} (h : p n = true) : cn p (n + 1) = cn p n + 1 := by simp [cn, h]
theorem cn_f {p : Nat → Bool} {n : Nat} (h : p n = false) : cn p (n + 1) = cn p n := by simp [cn, h]
theorem cn_le (p : Nat → Bool) : ∀ n, cn p n ≤ n
  | 0 => Nat.le_refl 0
  | n + 1 => by
    have := cn_le p n
    rw [cn]
    split <;> omega
theorem cn_cong {p q : Nat → Bool} : ∀ {n : Nat}, (∀ k, k < n → p k = q k) → cn p n = cn q n
  | 0, _ => rfl
  | n + 1, h => by rw [cn, cn, cn_cong (fun k hk => h k (by omega)), h n (by omega)]
theorem cn_pos {p : Nat → Bool} : ∀ {n : Nat}, 0 < cn p n ↔ ∃ k, k < n ∧ p k = true
  | 0 => ⟨fun h => by simp [cn] at h, fun ⟨k, h, _⟩ => by omega⟩
  | n + 1 => by
    have ih := cn_pos (p := p) (n := n)
    rw [cn]
    constructor
    · intro h
      by_cases hp : p n = true
      · exact ⟨n, by omega, hp⟩
      · rw [if_neg hp] at h
        obtain ⟨k, h1, h2⟩ := ih.mp (by omega)
        exact ⟨k, by omega, h2⟩
    · rintro ⟨k, h1, h2⟩
      by_cases hk : k = n
      · subst hk; rw [if_pos h2]; omega
      · have := ih.mpr ⟨k, by omega, h2⟩
        omega
theorem cn_not (p : Nat → Bool) : ∀ n, cn p n + cn (fun k => !p k) n = n
  | 0 => rfl
  | n + 1 => by
    have ih := cn_not p n
    rw [cn, cn]
    by_cases h : p n = true
    · simp [h]; omega
    · simp [h]; omega
theorem cn_full {p : Nat → Bool} {n : Nat} : cn p n = n ↔ ∀ k, k < n → p k = true := by
  have h1 := cn_not p n
  have h2 := cn_pos (p := fun k => !p k) (n := n)
  constructor
  · intro h k hk
    by_cases hp : p k = true
    · exact hp
    · have := h2.mpr ⟨k, hk, by simpa using hp⟩
      omega
  · intro h
    by_cases hz : 0 < cn (fun k => !p k) n
    · obtain ⟨k, a, b⟩ := h2.mp hz
      rw [h k a] at b
      simp at b
    · omega
def anyB (p : Nat → Bool) : Nat → Bool
  | 0 => false
  | n + 1 => anyB p n || p n
def allB (p : Nat → Bool) : Nat → Bool
  | 0 => true
  | n + 1 => allB p n && p n
theorem anyB_iff {p : Nat → Bool} : ∀ {n : Nat}, anyB p n = true ↔ ∃ k, k < n ∧ p k = true
  | 0 => ⟨fun h => by simp [anyB] at h, fun ⟨k, h, _⟩ => by omega⟩
  | n + 1 => by
    rw [anyB, Bool.or_eq_true, anyB_iff]
    constructor
    · rintro (⟨k, h1, h2⟩ | h)
      · exact ⟨k, by omega, h2⟩
      · exact ⟨n, by omega, h⟩
    · rintro ⟨k, h1, h2⟩
      by_cases hk : k = n
      · subst hk; exact Or.inr h2
      · exact Or.inl ⟨k, by omega, h2⟩
theorem allB_iff {p : Nat → Bool} : ∀ {n : Nat}, allB p n = true ↔ ∀ k, k < n → p k = true
  | 0 => ⟨fun _ k h => by omega, fun _ => rfl⟩
  | n + 1 => by
    rw [allB, Bool.and_eq_true, allB_iff]
    constructor
    · rintro ⟨h1, h2⟩ k hk
      by_cases hn : k = n
      · subst hn; exact h2
      · exact h1 k (by omega)
    · intro h
      exact ⟨fun k hk => h k (by omega), h n (by omega)⟩
theorem anyB_f {p : Nat → Bool} {n : Nat} (h : ∀ k, k < n → p k = false) : anyB p n = false := by
  rw [Bool.eq_false_iff]
  intro q
  obtain ⟨k, a, b⟩ := anyB_iff.mp q
  rw [h k a] at b
  cases b
theorem allB_f {p : Nat → Bool} {n k : Nat} (hk : k < n) (h : p k = false) : allB p n = false := by
  rw [Bool.eq_false_iff]
  intro q
  rw [allB_iff.mp q k hk] at h
  cases h
theorem anyB_t {p : Nat → Bool} {n k : Nat} (hk : k < n) (h : p k = true) : anyB p n = true := anyB_iff.mpr ⟨k, hk, h⟩
theorem allB_t {p : Nat → Bool} {n : Nat} (h : ∀ k, k < n → p k = true) : allB p n = true := allB_iff.mpr h
/-- the first k below n with p, or n -/
def fst1 (p : Nat → Bool) : Nat → Nat
  | 0 => 0
  | n + 1 => if fst1 p n < n then fst1 p n else if p n = true then n else n + 1
theorem fst1_spec (p : Nat → Bool) : ∀ n, fst1 p n ≤ n ∧ (∀ k, k < fst1 p n → p k = false) ∧ (fst1 p n < n → p (fst1 p n) = true)
  | 0 => ⟨Nat.le_refl 0, fun k h => absurd h (Nat.not_lt_zero k), fun h => absurd h (Nat.lt_irrefl 0)⟩
  | n + 1 => by
    obtain ⟨h1, h2, h3⟩ := fst1_spec p n
    rw [fst1]
    by_cases a : fst1 p n < n
    · rw [if_pos a]
      exact ⟨by omega, h2, fun _ => h3 a⟩
    · rw [if_neg a]
      have e : fst1 p n = n := by omega
      rw [e] at h2
      by_cases b : p n = true
      · rw [if_pos b]
        exact ⟨by omega, h2, fun _ => b⟩
      · rw [if_neg b]
        refine ⟨by omega, fun k hk => ?_, fun h => absurd h (Nat.lt_irrefl _)⟩
        by_cases hk2 : k = n
        · subst hk2; simpa using b
        · exact h2 k (by omega)
theorem fst1_le (p : Nat → Bool) (n : Nat) : fst1 p n ≤ n := (fst1_spec p n).1
theorem fst1_no {p : Nat → Bool} {n k : Nat} (h : k < fst1 p n) : p k = false := (fst1_spec p n).2.1 k h
theorem fst1_yes {p : Nat → Bool} {n : Nat} (h : fst1 p n < n) : p (fst1 p n) = true := (fst1_spec p n).2.2 h
theorem fst1_any {p : Nat → Bool} {n : Nat} : anyB p n = decide (fst1 p n < n) := by
  by_cases h : fst1 p n < n
  · rw [anyB_t h (fst1_yes h)]; simp [h]
  · rw [anyB_f (fun k hk => fst1_no (n := n) (by omega))]; simp [h]
theorem fst1_cong {p q : Nat → Bool} : ∀ {n : Nat}, (∀ k, k < n → p k = q k) → fst1 p n = fst1 q n
  | 0, _ => rfl
  | n + 1, h => by rw [fst1, fst1, fst1_cong (fun k hk => h k (by omega)), h n (by omega)]
theorem anyB_cong {p q : Nat → Bool} {n : Nat} (h : ∀ k, k < n → p k = q k) : anyB p n = anyB q n := by rw [fst1_any, fst1_any, fst1_cong h]
theorem allB_cong {p q : Nat → Bool} : ∀ {n : Nat}, (∀ k, k < n → p k = q k) → allB p n = allB q n
  | 0, _ => rfl
  | n + 1, h => by rw [allB, allB, allB_cong (fun k hk => h k (by omega)), h n (by omega)]
def sm (f : Nat → Nat) : Nat → Nat
  | 0 => 0
  | n + 1 => sm f n + f n
theorem sm_cong {f g : Nat → Nat} : ∀ {n : Nat}, (∀ k, k < n → f k = g k) → sm f n = sm g n
  | 0, _ => rfl
  | n + 1, h => by rw [sm, sm, sm_cong (fun k hk => h k (by omega)), h n (by omega)]
theorem sm_le {f : Nat → Nat} {c : Nat} : ∀ {n : Nat}, (∀ k, k < n → f k ≤ c) → sm f n ≤ n * c
  | 0, _ => Nat.zero_le _
  | n + 1, h => by
    have h1 := sm_le (f := f) (c := c) (n := n) (fun k hk => h k (by omega))
    have h2 := h n (by omega)
    rw [sm, Nat.succ_mul]
    omega
/-- truth as an int -/
def b2 (b : Bool) : Int32 := if b = true then nI 1 else nI 0
theorem b2_t : b2 true = nI 1 := rfl
theorem b2_f : b2 false = nI 0 := rfl
theorem rB_b2 {ρ : Type} {b : Bool} {k : Option ρ} : rB (b2 b) k = k := by cases b <;> first | exact rB0 | exact rB1
theorem ifb2 {α : Sort _} {b : Bool} {x y : α} : (if b2 b = nI 0 then x else y) = (if b = true then y else x) := by cases b <;> rfl
theorem ifb2le {α : Sort _} {b : Bool} {x y : α} : (if b2 b ≤ nI 0 then x else y) = (if b = true then y else x) := by cases b <;> rfl
/-- an int in a range of whole numbers -/
def inR (a : Int32) (lo hi : Int) : Bool := decide (lo ≤ a.toInt ∧ a.toInt ≤ hi)
theorem inR_t {a : Int32} {lo hi : Nat} (hhi : hi < 2147483648) (h : inR a lo hi = true) : ∃ k, lo ≤ k ∧ k ≤ hi ∧ a = nI k := by
  unfold inR at h
  rw [decide_eq_true_eq] at h
  refine ⟨a.toInt.toNat, by omega, by omega, ?_⟩
  apply Int32.toInt_inj.mp
  rw [nI_toI (by omega)]
  omega
theorem inR_n {a : Int32} {n : Nat} (hn : n < 2147483648) (h : inR a 0 ((n : Int) - 1) = true) : ∃ k, k < n ∧ a = nI k := by
  unfold inR at h
  rw [decide_eq_true_eq] at h
  refine ⟨a.toInt.toNat, by omega, ?_⟩
  apply Int32.toInt_inj.mp
  rw [nI_toI (by omega)]
  omega
theorem inR_nI {k : Nat} {lo hi : Int} (hk : k < 2147483648) : inR (nI k) lo hi = decide (lo ≤ (k : Int) ∧ (k : Int) ≤ hi) := by unfold inR; rw [nI_toI hk]
theorem lt_toInt {a b : Int32} : a < b ↔ a.toInt < b.toInt := Int32.lt_iff_toInt_lt
theorem le_toInt {a b : Int32} : a ≤ b ↔ a.toInt ≤ b.toInt := Int32.le_iff_toInt_le
/-- two tests in a row: a range -/
theorem rng_lt {lo hi : Nat} (a : Int32) (hlo : lo < 2147483648) (hhi : hi < 2147483648) {k0 k1 : Option Int32} : (if a < nI lo then k0 else (if nI hi ≤ a then k0 else k1)) = (if inR a lo ((hi : Int) - 1) = true then k1 else k0) := by
  unfold inR
  simp only [lt_toInt, le_toInt, nI_toI hlo, nI_toI hhi, decide_eq_true_eq]
  by_cases h : a.toInt < lo
  · rw [if_pos h, if_neg (by omega)]
  · rw [if_neg h]
    by_cases h2 : (hi : Int) ≤ a.toInt
    · rw [if_pos h2, if_neg (by omega)]
    · rw [if_neg h2, if_pos (by omega)]
theorem rng_le {lo hi : Nat} (a : Int32) (hlo : lo < 2147483648) (hhi : hi < 2147483648) {k0 k1 : Option Int32} : (if a < nI lo then k0 else (if nI hi < a then k0 else k1)) = (if inR a lo hi = true then k1 else k0) := by
  unfold inR
  simp only [lt_toInt, le_toInt, nI_toI hlo, nI_toI hhi, decide_eq_true_eq]
  by_cases h : a.toInt < lo
  · rw [if_pos h, if_neg (by omega)]
  · rw [if_neg h]
    by_cases h2 : (hi : Int) < a.toInt
    · rw [if_pos h2, if_neg (by omega)]
    · rw [if_neg h2, if_pos (by omega)]
theorem ite_b2 {b : Bool} : (if b = true then rB (nI 1) (some (nI 1)) else rB (nI 0) (some (nI 0))) = some (b2 b) := by cases b <;> rfl
theorem X3_isInGrid (z : zV) (a : Int32) : f_X3_isInGrid z a = some (b2 (inR a 0 6)) := by
  rw [f_X3_isInGrid, rng_lt (lo := 0) (hi := 7) a (by omega) (by omega), ite_b2]
  rfl
theorem X3_isLetter (z : zV) (a : Int32) : f_X3_isLetter z a = some (b2 (inR a 97 122)) := by
  rw [f_X3_isLetter, rng_le (lo := 97) (hi := 122) a (by omega) (by omega), ite_b2]
  rfl
theorem X3_isNumber (z : zV) (a : Int32) : f_X3_isNumber z a = some (b2 (inR a 1 26)) := by
  rw [f_X3_isNumber, rng_le (lo := 1) (hi := 26) a (by omega) (by omega), ite_b2]
  rfl
theorem X3_isInList {z : zV} {n : Nat} (h : z.1 0 5 = nI n) (hn : n < 2147483648) (a : Int32) : f_X3_isInList z a = some (b2 (inR a 0 ((n : Int) - 1))) := by
  rw [f_X3_isInList, h, rng_lt (lo := 0) (hi := n) a (by omega) hn, ite_b2]
  rfl
theorem X3_isWord {z : zV} {n : Nat} (h : z.1 36 3 = nI n) (hn : n < 2147483648) (a : Int32) : f_X3_isWord z a = some (b2 (inR a 0 ((n : Int) - 1))) := by
  rw [f_X3_isWord, h, rng_lt (lo := 0) (hi := n) a (by omega) hn, ite_b2]
  rfl
theorem lg_lt0 (x y : Int64) : lg_cmp x y < nI 0 ↔ x.toInt < y.toInt := by
  unfold lg_cmp
  by_cases h : x > y
  · rw [if_pos h]
    have := Int64.lt_iff_toInt_lt.mp h
    exact ⟨fun q => absurd q (by decide), fun q => by omega⟩
  · rw [if_neg h]
    have h' : ¬ y.toInt < x.toInt := fun q => h (Int64.lt_iff_toInt_lt.mpr q)
    by_cases e : x = y
    · rw [if_pos e, e]
      exact ⟨fun q => absurd q (by decide), fun q => by omega⟩
    · rw [if_neg e]
      have : x.toInt ≠ y.toInt := fun q => e (Int64.toInt_inj.mp q)
      exact ⟨fun _ => by omega, fun _ => by decide⟩
theorem lg_gt0 (x y : Int64) : nI 0 < lg_cmp x y ↔ y.toInt < x.toInt := by
  unfold lg_cmp
  by_cases h : x > y
  · rw [if_pos h]
    have := Int64.lt_iff_toInt_lt.mp h
    exact ⟨fun _ => this, fun _ => by decide⟩
  · rw [if_neg h]
    have h' : ¬ y.toInt < x.toInt := fun q => h (Int64.lt_iff_toInt_lt.mpr q)
    by_cases e : x = y
    · rw [if_pos e]
      exact ⟨fun q => absurd q (by decide), fun q => absurd q h'⟩
    · rw [if_neg e]
      exact ⟨fun q => absurd q (by decide), fun q => absurd q h'⟩
theorem X4_in (z : zV) (v : Int32) (x y : Int64) : f_X4_in z v.toInt64 x y = some (b2 (inR v x.toInt y.toInt)) := by
  rw [f_X4_in]
  unfold inR
  have e : v.toInt64.toInt = v.toInt := Int32.toInt_toInt64 v
  simp only [lg_lt0, lg_gt0, e]
  by_cases h : v.toInt < x.toInt
  · rw [if_pos h, rB0]
    simp [b2]; omega
  · rw [if_neg h]
    by_cases h2 : y.toInt < v.toInt
    · rw [if_pos h2, rB0]
      simp [b2]; omega
    · rw [if_neg h2, rB1]
      simp [b2]; omega
theorem X4_inL (z : zV) (v : Int32) {lo hi : Nat} (h1 : lo < 2147483648) (h2 : hi < 2147483648) : f_X4_in z v.toInt64 (lN lo) (lN hi) = some (b2 (inR v lo hi)) := by
  rw [X4_in, lN_toInt (by omega), lN_toInt (by omega)]
theorem X4_inN (z : zV) (v : Int32) {n : Nat} (h2 : n < 2147483648) : f_X4_in z v.toInt64 (lN 0) ((nI n).toInt64 - lN 1) = some (b2 (inR v 0 ((n : Int) - 1))) := by
  have e : ((nI n).toInt64 - lN 1).toInt = (n : Int) - 1 := by
    rw [nI_l (by omega)]
    rcases Nat.eq_zero_or_pos n with h | h
    · subst h; decide
    · rw [lN_sub (by omega), lN_toInt (by omega)]; omega
  rw [X4_in, lN_toInt (by omega), e]
  rfl
