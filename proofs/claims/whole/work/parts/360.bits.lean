/-! BITS: how many are set, by the method of the JDK, over whole numbers -/
theorem nI_and (a b : Nat) : nI a &&& nI b = nI (a &&& b) := by
  apply Int32.toBitVec_inj.mp
  show (BitVec.ofNat 32 a) &&& (BitVec.ofNat 32 b) = BitVec.ofNat 32 (a &&& b)
  rw [BitVec.ofNat_and]
theorem nI_or (a b : Nat) : nI a ||| nI b = nI (a ||| b) := by
  apply Int32.toBitVec_inj.mp
  show (BitVec.ofNat 32 a) ||| (BitVec.ofNat 32 b) = BitVec.ofNat 32 (a ||| b)
  rw [BitVec.ofNat_or]
theorem nI_xor (a b : Nat) : nI a ^^^ nI b = nI (a ^^^ b) := by
  apply Int32.toBitVec_inj.mp
  show (BitVec.ofNat 32 a) ^^^ (BitVec.ofNat 32 b) = BitVec.ofNat 32 (a ^^^ b)
  rw [BitVec.ofNat_xor]
theorem nI_m1 : (-1 : Int32) = nI 4294967295 := by decide
theorem nI_inj32 {a b : Nat} (ha : a < 4294967296) (hb : b < 4294967296) (h : nI a = nI b) : a = b := by
  have h1 := pk_tn (n := a) (by omega)
  have h2 := pk_tn (n := b) (by omega)
  rw [h, h2] at h1
  exact h1.symm
theorem and_split (x b m c : Nat) (hb : b < 256) (hc : c < 256) : (256 * x + b) &&& (256 * m + c) = 256 * (x &&& m) + (b &&& c) := by
  apply Nat.eq_of_testBit_eq
  intro i
  have h3 : b &&& c < 2 ^ 8 := Nat.lt_of_le_of_lt Nat.and_le_left hb
  have e1 := Nat.testBit_two_pow_mul_add x (i := 8) (b := b) hb i
  have e2 := Nat.testBit_two_pow_mul_add m (i := 8) (b := c) hc i
  have e3 := Nat.testBit_two_pow_mul_add (x &&& m) (i := 8) (b := b &&& c) h3 i
  rw [Nat.testBit_and]
  show ((2 ^ 8 * x + b).testBit i && (2 ^ 8 * m + c).testBit i) = (2 ^ 8 * (x &&& m) + (b &&& c)).testBit i
  rw [e1, e2, e3]
  by_cases h : i < 8
  · rw [if_pos h, if_pos h, if_pos h, Nat.testBit_and]
  · rw [if_neg h, if_neg h, if_neg h, Nat.testBit_and]
def w1 (m x : Nat) : Nat := x - (x / 2 &&& m)
def w2 (m y : Nat) : Nat := (y &&& m) + (y / 4 &&& m)
def w3 (m y : Nat) : Nat := (y + y / 16) &&& m
def pop8 (b : Nat) : Nat := cn (fun i => b.testBit i) 8
theorem t1 : ∀ e, e < 2 → ∀ b, b < 256 → (128 * e + b / 2) &&& 85 = b / 2 &&& 85 := by decide +kernel
theorem t2 : ∀ e, e < 4 → ∀ b, b < 256 → (64 * e + b / 4) &&& 51 = b / 4 &&& 51 := by decide +kernel
theorem t3 : ∀ b, b < 256 → w2 51 (w1 85 b) % 16 ≤ 4 ∧ w2 51 (w1 85 b) ≤ 68 ∧ w1 85 b < 256 := by decide +kernel
theorem t4 : ∀ e, e < 5 → ∀ b, b < 256 → (16 * e + (w2 51 (w1 85 b) + w2 51 (w1 85 b) / 16)) &&& 15 = pop8 b := by decide +kernel
theorem w1_s (m x b : Nat) (hb : b < 256) : w1 (256 * m + 85) (256 * x + b) = 256 * w1 m x + w1 85 b := by
  unfold w1
  have e : (256 * x + b) / 2 = 256 * (x / 2) + (128 * (x % 2) + b / 2) := by omega
  rw [e, and_split _ _ _ _ (by omega) (by omega), t1 _ (by omega) _ hb]
  have h1 : x / 2 &&& m ≤ x / 2 := Nat.and_le_left
  have h2 : b / 2 &&& 85 ≤ b / 2 := Nat.and_le_left
  omega
theorem w2_s (m y c : Nat) (hc : c < 256) : w2 (256 * m + 51) (256 * y + c) = 256 * w2 m y + w2 51 c := by
  unfold w2
  have e : (256 * y + c) / 4 = 256 * (y / 4) + (64 * (y % 4) + c / 4) := by omega
  rw [e, and_split _ _ _ _ hc (by omega), and_split _ _ _ _ (by omega) (by omega), t2 _ (by omega) _ hc]
  omega
theorem w3_s (m y d b : Nat) (hd : d = w2 51 (w1 85 b)) (hb : b < 256) (hy : y % 16 ≤ 4) : w3 (256 * m + 15) (256 * y + d) = 256 * w3 m y + pop8 b := by
  obtain ⟨-, h2, -⟩ := t3 b hb
  rw [← hd] at h2
  have e : 256 * y + d + (256 * y + d) / 16 = 256 * (y + y / 16) + (16 * (y % 16) + (d + d / 16)) := by omega
  have h4 := t4 (y % 16) (by omega) b hb
  rw [← hd] at h4
  unfold w3
  rw [e, and_split _ _ _ _ (by omega) (by omega), h4]
theorem low4 (m n x b : Nat) (hb : b < 256) : w2 (256 * m + 51) (w1 (256 * n + 85) (256 * x + b)) % 16 ≤ 4 := by
  obtain ⟨h1, -, h3⟩ := t3 b hb
  rw [w1_s _ _ _ hb, w2_s _ _ _ h3]
  omega
theorem swar (a b c d : Nat) (ha : a < 256) (hb : b < 256) (hc : c < 256) (hd : d < 256) : w3 252645135 (w2 858993459 (w1 1431655765 (256 * (256 * (256 * d + c) + b) + a))) = 256 * (256 * (256 * pop8 d + pop8 c) + pop8 b) + pop8 a := by
  have ta := t3 a ha
  have tb := t3 b hb
  have tc := t3 c hc
  have td := t3 d hd
  have e0 := w1_s 5592405 (256 * (256 * d + c) + b) a ha
  have e1 := w1_s 21845 (256 * d + c) b hb
  have e2 := w1_s 85 d c hc
  have f0 := w2_s 3355443 (w1 5592405 (256 * (256 * d + c) + b)) (w1 85 a) ta.2.2
  have f1 := w2_s 13107 (w1 21845 (256 * d + c)) (w1 85 b) tb.2.2
  have f2 := w2_s 51 (w1 85 d) (w1 85 c) tc.2.2
  have l0 := low4 13107 21845 (256 * d + c) b hb
  have l1 := low4 51 85 d c hc
  have g0 := w3_s 986895 (w2 3355443 (w1 5592405 (256 * (256 * d + c) + b))) (w2 51 (w1 85 a)) a rfl ha l0
  have g1 := w3_s 3855 (w2 13107 (w1 21845 (256 * d + c))) (w2 51 (w1 85 b)) b rfl hb l1
  have g2 := w3_s 15 (w2 51 (w1 85 d)) (w2 51 (w1 85 c)) c rfl hc td.1
  have g3 := t4 0 (by omega) d hd
  have g4 : w3 15 (w2 51 (w1 85 d)) = pop8 d := by
    unfold w3
    rw [Nat.mul_zero, Nat.zero_add] at g3
    exact g3
  show w3 (256 * 986895 + 15) (w2 (256 * 3355443 + 51) (w1 (256 * 5592405 + 85) (256 * (256 * (256 * d + c) + b) + a))) = _
  rw [e0, f0, g0]
  show 256 * w3 (256 * 3855 + 15) (w2 (256 * 13107 + 51) (w1 (256 * 21845 + 85) (256 * (256 * d + c) + b))) + pop8 a = _
  rw [e1, f1, g1]
  show 256 * (256 * w3 (256 * 15 + 15) (w2 (256 * 51 + 51) (w1 (256 * 85 + 85) (256 * d + c))) + pop8 b) + pop8 a = _
  rw [e2, f2, g2, g4]
theorem pop8_le (b : Nat) : pop8 b ≤ 8 := cn_le _ _
theorem cn_split (p : Nat → Bool) (m : Nat) : ∀ n, cn p (m + n) = cn p m + cn (fun k => p (m + k)) n
  | 0 => rfl
  | n + 1 => by
    have h := cn_split p m n
    rw [← Nat.add_assoc, cn, cn, h]
    omega
theorem cn_byte (x b : Nat) (hb : b < 256) (n : Nat) : cn (fun i => (256 * x + b).testBit i) (8 + n) = pop8 b + cn (fun i => x.testBit i) n := by
  rw [cn_split]
  unfold pop8
  congr 1
  · refine cn_cong (fun k hk => ?_)
    have := Nat.testBit_two_pow_mul_add x (i := 8) (b := b) hb k
    rw [if_pos hk] at this
    exact this
  · refine cn_cong (fun k hk => ?_)
    have := Nat.testBit_two_pow_mul_add x (i := 8) (b := b) hb (8 + k)
    rw [if_neg (by omega), show 8 + k - 8 = k by omega] at this
    exact this
theorem J6_bitCount (z : zV) {x : Nat} (hx : x < 4294967296) : f_J6_bitCount_0f7a4 z (nI x) = some (nI (cn (fun i => x.testBit i) 32)) := by
  have us : ∀ {n : Nat} (k : Nat), n < 4294967296 → ∀ s : Int32, ((s.toUInt32 &&& Int32.toUInt32 31).toBitVec % 32).toNat = k → ((nI n).toUInt32 >>> (s.toUInt32 &&& Int32.toUInt32 31)).toInt32 = nI (n / 2 ^ k) := fun k hn s hs => pk_ushrN (by omega) s k hs
  have u1 : ∀ {n : Nat}, n < 4294967296 → ((nI n).toUInt32 >>> ((nI 1).toUInt32 &&& Int32.toUInt32 31)).toInt32 = nI (n / 2) := fun hn => us 1 hn (nI 1) (by decide)
  have u2 : ∀ {n : Nat}, n < 4294967296 → ((nI n).toUInt32 >>> ((nI 2).toUInt32 &&& Int32.toUInt32 31)).toInt32 = nI (n / 4) := fun hn => us 2 hn (nI 2) (by decide)
  have u4 : ∀ {n : Nat}, n < 4294967296 → ((nI n).toUInt32 >>> ((nI 4).toUInt32 &&& Int32.toUInt32 31)).toInt32 = nI (n / 16) := fun hn => us 4 hn (nI 4) (by decide)
  have u8 : ∀ {n : Nat}, n < 4294967296 → ((nI n).toUInt32 >>> ((nI 8).toUInt32 &&& Int32.toUInt32 31)).toInt32 = nI (n / 256) := fun hn => us 8 hn (nI 8) (by decide)
  have u16 : ∀ {n : Nat}, n < 4294967296 → ((nI n).toUInt32 >>> ((nI 16).toUInt32 &&& Int32.toUInt32 31)).toInt32 = nI (n / 65536) := fun hn => us 16 hn (nI 16) (by decide)
  obtain ⟨a, b, c, d, ha, hb, hc, hd, rfl⟩ : ∃ a b c d, a < 256 ∧ b < 256 ∧ c < 256 ∧ d < 256 ∧ x = 256 * (256 * (256 * d + c) + b) + a := ⟨x % 256, x / 256 % 256, x / 65536 % 256, x / 16777216, by omega, by omega, by omega, by omega, by omega⟩
  have hs := swar a b c d ha hb hc hd
  have pa := pop8_le a
  have pb := pop8_le b
  have pc := pop8_le c
  have pd := pop8_le d
  have hcn : cn (fun i => (256 * (256 * (256 * d + c) + b) + a).testBit i) 32 = pop8 a + (pop8 b + (pop8 c + (pop8 d + 0))) := by
    rw [show 32 = 8 + 24 by rfl, cn_byte _ _ ha, show 24 = 8 + 16 by rfl, cn_byte _ _ hb, show 16 = 8 + 8 by rfl, cn_byte _ _ hc]
    rfl
  generalize hX : 256 * (256 * (256 * d + c) + b) + a = X at *
  have q1 : nI X - (nI (X / 2) &&& nI 1431655765) = nI (w1 1431655765 X) := by
    have h1 : X / 2 &&& 1431655765 ≤ X / 2 := Nat.and_le_left
    rw [nI_and, pk_sub (by omega)]
    rfl
  have b1 : w1 1431655765 X < 4294967296 := by unfold w1; omega
  generalize hY : w1 1431655765 X = Y at *
  have q2 : (nI Y &&& nI 858993459) + (nI (Y / 4) &&& nI 858993459) = nI (w2 858993459 Y) := by
    rw [nI_and, nI_and, nI_add]
    rfl
  have b2 : w2 858993459 Y < 2147483648 := by
    unfold w2
    have h1 : Y &&& 858993459 ≤ 858993459 := Nat.and_le_right
    have h2 : Y / 4 &&& 858993459 ≤ 858993459 := Nat.and_le_right
    omega
  generalize hZ : w2 858993459 Y = Z at *
  have q3 : (nI Z + nI (Z / 16)) &&& nI 252645135 = nI (w3 252645135 Z) := by
    rw [nI_add, nI_and]
    rfl
  generalize hV : w3 252645135 Z = V at *
  have bV : V < 4294967296 := by omega
  have bV2 : V + V / 256 < 4294967296 := by omega
  rw [f_J6_bitCount_0f7a4]
  rw [u1 hx, q1, u2 b1, q2, u4 (by omega), q3, u8 bV, nI_add, u16 bV2, nI_add, nI_and]
  have hf : (V + V / 256 + (V + V / 256) / 65536) &&& 63 = (V + V / 256 + (V + V / 256) / 65536) % 64 := Nat.and_two_pow_sub_one_eq_mod _ 6
  have n1 : V / 256 = pop8 b + 256 * pop8 c + 65536 * pop8 d := by omega
  have n2 : (V + V / 256) / 65536 = (pop8 c + pop8 d) + 256 * pop8 d := by omega
  rw [hf, hcn, n2, n1, hs]
  congr 2
  omega
