/-! THE LAW'S CASES (made by tools/lawcases.py) -/
def LC (p : Program) (m : MethodId) (c : Code) (s : State) (b L : Nat) (xs : Nat → Int32) (D : va_G) (X1 X2 : zE) (i : Nat) (ls : Array Slot) : Prop := CallFix p m c cL_law 4 s #[Value.ref b] wsL_law RL ∧ zK D X1 s ∧ zK D X2 s ∧ zw_inj 44 X1.1 ∧ zw_inj 9 X2.1 ∧ LX 44 X1 9 X2 s ∧ va_X b L xs s s.heap ∧ b < s.heap.size ∧ i + 3 < L ∧ L ≤ 2048 ∧ lv_has ls 4 [(0, .ref b), (1, .ref (X1.1 42)), (2, .ref (X2.1 0)), (3, .int (nI i))]
theorem i2c_nI (x : Int32) : ∃ ch : Nat, ch < 65536 ∧ (x.toUInt32 % 65536).toInt32 = nI ch := by
  refine ⟨x.toBitVec.toNat % 65536, Nat.mod_lt _ (by decide), ?_⟩
  apply Int32.toBitVec_inj.mp
  apply BitVec.eq_of_toNat_eq
  show (x.toUInt32 % 65536).toNat = (x.toBitVec.toNat % 65536) % 2 ^ 32
  rw [Nat.mod_eq_of_lt (show x.toBitVec.toNat % 65536 < 2 ^ 32 from Nat.lt_trans (Nat.mod_lt _ (by decide)) (by decide))]
  rfl
section LCs
variable {D : va_G} {X1 X2 : zE} {p : Program} {l : Launch} {e : Env} {s : State} {m : MethodId} {below : List Frame} {meth : Method} {c : Code} {Q : State → Prop} {pc b L i : Nat} {xs : Nat → Int32} {st : List Value} {H : Heap} {locs : List Loc} {cells slots : Nat} {ls : Array Slot} {z m0 : zV}
theorem L_arg (C : LC p m c s b L xs D X1 X2 i ls) (hS : va_S (fun q : Nat => s.heap.size ≤ q) s.heap H locs) (k : Nat) {n : Int} (hk : k ≤ 3) (hv : Int32.ofInt n = nI k) (d1 : decode cL_law pc = .ok (.aload_n 0, 1)) (d2 : decode cL_law (pc + 1) = .ok (.iload_n 3, 1)) (d3 : decode cL_law (pc + 2) = .ok (.iconst n, 1)) (d4 : decode cL_law (pc + 3) = .ok (.iadd, 1)) (d5 : decode cL_law (pc + 4) = .ok (.iaload, 1))
    (kk : W p l e room_1 s m #[Value.ref b] below meth c H locs cells slots Q (F0 m (pc + 5) ls (.int (xs (i + k)) :: st))) : W p l e room_1 s m #[Value.ref b] below meth c H locs cells slots Q (F0 m pc ls st) := by
  obtain ⟨S, K1, K2, I1, I2, XX, hX, hbl, hi, hL, hl⟩ := id C
  obtain ⟨hx, hb, -, -, hts⟩ := id S
  refine lv_aload_n hx hb d1 rfl (lv_at hl 0 rfl) ?_
  refine lv_iload_n hx hb d2 rfl (lv_at hl 3 rfl) ?_
  refine lv_iconst hx hb d3 hv ?_
  refine lv_iadd hx hb d4 ?_
  rw [nI_add]
  refine va_sld hx hb hX hbl (Nat.not_le.mpr hbl) hS (pk_in (i + k) L (by omega)) d5 ?_
  rw [pk_cl (i + k)]
  exact kk
theorem ca_setRow (C : LC p m c s b L xs D X1 X2 i ls) (hg : LG D 44 X1 (zc shC X1 z) 9 X2 (zc shM X2 m0) s H locs) (J : JJ z m0) (hf : cells + 0 ≤ room_1.cells ∧ slots + 0 ≤ room_1.slots) (kk : ∀ (z' m' : zV) (H' : Heap) (locs' : List Loc), JJ z' m' → LG D 44 X1 (zc shC X1 z') 9 X2 (zc shM X2 m') s H' locs' → W p l e room_1 s m #[Value.ref b] below meth c H' locs' cells slots Q (F0 m 669 ls [])) : W p l e room_1 s m #[Value.ref b] below meth c H locs cells slots Q (F0 m 132 ls []) := by
  obtain ⟨S, K1, K2, I1, I2, XX, hX, hbl, hi, hL, hl⟩ := id C
  obtain ⟨hx, hb, -, -, hts⟩ := id S
  obtain ⟨r, z1, m1, e1, e2, J1⟩ := A_setRow J ((xs (i + 1)))
  refine lv_aload_n hx hb dL_law_132 rfl (lv_at hl 1 rfl) ?_
  refine L_arg C hg.2.2 1 (by omega) (by decide) dL_law_133 dL_law_134 dL_law_135 dL_law_136 dL_law_137 ?_
  refine L_w (As := [.int ((xs (i + 1)))]) S K1 XX hg (c_X3_setRow l D X1 z _ I1 e1) (cwV 1 hts gL_law_X3_setRow rfl rfl rfl hd_X3_setRow ⟨Nat.le_of_ble_eq_true rfl, Nat.le_of_ble_eq_true rfl⟩) (Nat.le_of_ble_eq_true rfl) (cC_42 X1 z) rfl rfl rfl (Nat.le_of_ble_eq_true rfl) hl.1 dL_law_138 hf (fun H1 locs1 hg1 => ?_)
  refine lv_aload_n hx hb dL_law_141 rfl (lv_at hl 2 rfl) ?_
  refine L_arg C hg1.2.2 1 (by omega) (by decide) dL_law_142 dL_law_143 dL_law_144 dL_law_145 dL_law_146 ?_
  refine L_w (As := [.int ((xs (i + 1)))]) S K2 (LX_sw XX) (LG_sw hg1) (c_X4_setRow l D X2 m0 _ I2 e2) (cwV 1 hts gL_law_X4_setRow rfl rfl rfl hd_X4_setRow ⟨Nat.le_of_ble_eq_true rfl, Nat.le_of_ble_eq_true rfl⟩) (Nat.le_of_ble_eq_true rfl) (cM_0 X2 m0) rfl rfl rfl (Nat.le_of_ble_eq_true rfl) hl.1 dL_law_147 hf (fun H2 locs2 hg2 => ?_)
  exact lv_icmp_eq hx hb dL_law_150 (tgt := 669) (by decide) (fun _ => kk _ _ _ _ J1 (LG_sw hg2)) (fun h => absurd rfl h)
theorem ca_setKey (C : LC p m c s b L xs D X1 X2 i ls) (hg : LG D 44 X1 (zc shC X1 z) 9 X2 (zc shM X2 m0) s H locs) (J : JJ z m0) (hf : cells + 0 ≤ room_1.cells ∧ slots + 0 ≤ room_1.slots) (kk : ∀ (z' m' : zV) (H' : Heap) (locs' : List Loc), JJ z' m' → LG D 44 X1 (zc shC X1 z') 9 X2 (zc shM X2 m') s H' locs' → W p l e room_1 s m #[Value.ref b] below meth c H' locs' cells slots Q (F0 m 669 ls [])) : W p l e room_1 s m #[Value.ref b] below meth c H locs cells slots Q (F0 m 155 ls []) := by
  obtain ⟨S, K1, K2, I1, I2, XX, hX, hbl, hi, hL, hl⟩ := id C
  obtain ⟨hx, hb, -, -, hts⟩ := id S
  obtain ⟨r, z1, m1, e1, e2, J1⟩ := A_setKey J ((xs (i + 1))) ((xs (i + 2)))
  refine lv_aload_n hx hb dL_law_155 rfl (lv_at hl 1 rfl) ?_
  refine L_arg C hg.2.2 1 (by omega) (by decide) dL_law_156 dL_law_157 dL_law_158 dL_law_159 dL_law_160 ?_
  refine L_arg C hg.2.2 2 (by omega) (by decide) dL_law_161 dL_law_162 dL_law_163 dL_law_164 dL_law_165 ?_
  refine L_w (As := [.int ((xs (i + 1))), .int ((xs (i + 2)))]) S K1 XX hg (c_X3_setKey l D X1 z _ _ I1 e1) (cwV 2 hts gL_law_X3_setKey rfl rfl rfl hd_X3_setKey ⟨Nat.le_of_ble_eq_true rfl, Nat.le_of_ble_eq_true rfl⟩) (Nat.le_of_ble_eq_true rfl) (cC_42 X1 z) rfl rfl rfl (Nat.le_of_ble_eq_true rfl) hl.1 dL_law_166 hf (fun H1 locs1 hg1 => ?_)
  refine lv_aload_n hx hb dL_law_169 rfl (lv_at hl 2 rfl) ?_
  refine L_arg C hg1.2.2 1 (by omega) (by decide) dL_law_170 dL_law_171 dL_law_172 dL_law_173 dL_law_174 ?_
  refine L_arg C hg1.2.2 2 (by omega) (by decide) dL_law_175 dL_law_176 dL_law_177 dL_law_178 dL_law_179 ?_
  refine L_w (As := [.int ((xs (i + 1))), .int ((xs (i + 2)))]) S K2 (LX_sw XX) (LG_sw hg1) (c_X4_setKey l D X2 m0 _ _ I2 e2) (cwV 2 hts gL_law_X4_setKey rfl rfl rfl hd_X4_setKey ⟨Nat.le_of_ble_eq_true rfl, Nat.le_of_ble_eq_true rfl⟩) (Nat.le_of_ble_eq_true rfl) (cM_0 X2 m0) rfl rfl rfl (Nat.le_of_ble_eq_true rfl) hl.1 dL_law_180 hf (fun H2 locs2 hg2 => ?_)
  exact lv_icmp_eq hx hb dL_law_183 (tgt := 669) (by decide) (fun _ => kk _ _ _ _ J1 (LG_sw hg2)) (fun h => absurd rfl h)
theorem ca_addWords (C : LC p m c s b L xs D X1 X2 i ls) (hg : LG D 44 X1 (zc shC X1 z) 9 X2 (zc shM X2 m0) s H locs) (J : JJ z m0) (hf : cells + 0 ≤ room_1.cells ∧ slots + 0 ≤ room_1.slots) (kk : ∀ (z' m' : zV) (H' : Heap) (locs' : List Loc), JJ z' m' → LG D 44 X1 (zc shC X1 z') 9 X2 (zc shM X2 m') s H' locs' → W p l e room_1 s m #[Value.ref b] below meth c H' locs' cells slots Q (F0 m 669 ls [])) : W p l e room_1 s m #[Value.ref b] below meth c H locs cells slots Q (F0 m 188 ls []) := by
  obtain ⟨S, K1, K2, I1, I2, XX, hX, hbl, hi, hL, hl⟩ := id C
  obtain ⟨hx, hb, -, -, hts⟩ := id S
  obtain ⟨r, z1, m1, e1, e2, J1⟩ := A_addWords J
  refine lv_aload_n hx hb dL_law_188 rfl (lv_at hl 1 rfl) ?_
  refine L_w (As := []) S K1 XX hg (c_X3_addWords l D X1 z I1 e1) (cwV 0 hts gL_law_X3_addWords rfl rfl rfl hd_X3_addWords ⟨Nat.le_of_ble_eq_true rfl, Nat.le_of_ble_eq_true rfl⟩) (Nat.le_of_ble_eq_true rfl) (cC_42 X1 z) rfl rfl rfl (Nat.le_of_ble_eq_true rfl) hl.1 dL_law_189 hf (fun H1 locs1 hg1 => ?_)
  refine lv_aload_n hx hb dL_law_192 rfl (lv_at hl 2 rfl) ?_
  refine L_w (As := []) S K2 (LX_sw XX) (LG_sw hg1) (c_X4_addWords l D X2 m0 I2 e2) (cwV 0 hts gL_law_X4_addWords rfl rfl rfl hd_X4_addWords ⟨Nat.le_of_ble_eq_true rfl, Nat.le_of_ble_eq_true rfl⟩) (Nat.le_of_ble_eq_true rfl) (cM_0 X2 m0) rfl rfl rfl (Nat.le_of_ble_eq_true rfl) hl.1 dL_law_193 hf (fun H2 locs2 hg2 => ?_)
  exact lv_icmp_eq hx hb dL_law_196 (tgt := 669) (by decide) (fun _ => kk _ _ _ _ J1 (LG_sw hg2)) (fun h => absurd rfl h)
theorem ca_dropWord (C : LC p m c s b L xs D X1 X2 i ls) (hg : LG D 44 X1 (zc shC X1 z) 9 X2 (zc shM X2 m0) s H locs) (J : JJ z m0) (hf : cells + 0 ≤ room_1.cells ∧ slots + 0 ≤ room_1.slots) (kk : ∀ (z' m' : zV) (H' : Heap) (locs' : List Loc), JJ z' m' → LG D 44 X1 (zc shC X1 z') 9 X2 (zc shM X2 m') s H' locs' → W p l e room_1 s m #[Value.ref b] below meth c H' locs' cells slots Q (F0 m 669 ls [])) : W p l e room_1 s m #[Value.ref b] below meth c H locs cells slots Q (F0 m 201 ls []) := by
  obtain ⟨S, K1, K2, I1, I2, XX, hX, hbl, hi, hL, hl⟩ := id C
  obtain ⟨hx, hb, -, -, hts⟩ := id S
  obtain ⟨r, z1, m1, e1, e2, J1⟩ := A_dropWord J ((xs (i + 1)))
  refine lv_aload_n hx hb dL_law_201 rfl (lv_at hl 1 rfl) ?_
  refine L_arg C hg.2.2 1 (by omega) (by decide) dL_law_202 dL_law_203 dL_law_204 dL_law_205 dL_law_206 ?_
  refine L_w (As := [.int ((xs (i + 1)))]) S K1 XX hg (c_X3_dropWord l D X1 z _ I1 e1) (cwV 1 hts gL_law_X3_dropWord rfl rfl rfl hd_X3_dropWord ⟨Nat.le_of_ble_eq_true rfl, Nat.le_of_ble_eq_true rfl⟩) (Nat.le_of_ble_eq_true rfl) (cC_42 X1 z) rfl rfl rfl (Nat.le_of_ble_eq_true rfl) hl.1 dL_law_207 hf (fun H1 locs1 hg1 => ?_)
  refine lv_aload_n hx hb dL_law_210 rfl (lv_at hl 2 rfl) ?_
  refine L_arg C hg1.2.2 1 (by omega) (by decide) dL_law_211 dL_law_212 dL_law_213 dL_law_214 dL_law_215 ?_
  refine L_w (As := [.int ((xs (i + 1)))]) S K2 (LX_sw XX) (LG_sw hg1) (c_X4_dropWord l D X2 m0 _ I2 e2) (cwV 1 hts gL_law_X4_dropWord rfl rfl rfl hd_X4_dropWord ⟨Nat.le_of_ble_eq_true rfl, Nat.le_of_ble_eq_true rfl⟩) (Nat.le_of_ble_eq_true rfl) (cM_0 X2 m0) rfl rfl rfl (Nat.le_of_ble_eq_true rfl) hl.1 dL_law_216 hf (fun H2 locs2 hg2 => ?_)
  exact lv_icmp_eq hx hb dL_law_219 (tgt := 669) (by decide) (fun _ => kk _ _ _ _ J1 (LG_sw hg2)) (fun h => absurd rfl h)
theorem ca_guess (C : LC p m c s b L xs D X1 X2 i ls) (hg : LG D 44 X1 (zc shC X1 z) 9 X2 (zc shM X2 m0) s H locs) (J : JJ z m0) (hf : cells + 0 ≤ room_1.cells ∧ slots + 0 ≤ room_1.slots) (kk : ∀ (z' m' : zV) (H' : Heap) (locs' : List Loc), JJ z' m' → LG D 44 X1 (zc shC X1 z') 9 X2 (zc shM X2 m') s H' locs' → W p l e room_1 s m #[Value.ref b] below meth c H' locs' cells slots Q (F0 m 669 ls [])) : W p l e room_1 s m #[Value.ref b] below meth c H locs cells slots Q (F0 m 224 ls []) := by
  obtain ⟨S, K1, K2, I1, I2, XX, hX, hbl, hi, hL, hl⟩ := id C
  obtain ⟨hx, hb, -, -, hts⟩ := id S
  obtain ⟨r, z1, m1, e1, e2, J1⟩ := A_guess J ((xs (i + 1))) ((((xs (i + 2))).toUInt32 % 65536).toInt32)
  refine lv_aload_n hx hb dL_law_224 rfl (lv_at hl 1 rfl) ?_
  refine L_arg C hg.2.2 1 (by omega) (by decide) dL_law_225 dL_law_226 dL_law_227 dL_law_228 dL_law_229 ?_
  refine L_arg C hg.2.2 2 (by omega) (by decide) dL_law_230 dL_law_231 dL_law_232 dL_law_233 dL_law_234 ?_
  refine lv_i2c hx hb dL_law_235 rfl ?_
  refine L_w (As := [.int ((xs (i + 1))), .int ((((xs (i + 2))).toUInt32 % 65536).toInt32)]) S K1 XX hg (c_X3_guess l D X1 z _ _ I1 e1) (cwV 2 hts gL_law_X3_guess rfl rfl rfl hd_X3_guess ⟨Nat.le_of_ble_eq_true rfl, Nat.le_of_ble_eq_true rfl⟩) (Nat.le_of_ble_eq_true rfl) (cC_42 X1 z) rfl rfl rfl (Nat.le_of_ble_eq_true rfl) hl.1 dL_law_236 hf (fun H1 locs1 hg1 => ?_)
  refine lv_aload_n hx hb dL_law_239 rfl (lv_at hl 2 rfl) ?_
  refine L_arg C hg1.2.2 1 (by omega) (by decide) dL_law_240 dL_law_241 dL_law_242 dL_law_243 dL_law_244 ?_
  refine L_arg C hg1.2.2 2 (by omega) (by decide) dL_law_245 dL_law_246 dL_law_247 dL_law_248 dL_law_249 ?_
  refine lv_i2c hx hb dL_law_250 rfl ?_
  refine L_w (As := [.int ((xs (i + 1))), .int ((((xs (i + 2))).toUInt32 % 65536).toInt32)]) S K2 (LX_sw XX) (LG_sw hg1) (c_X4_guess l D X2 m0 _ _ I2 e2) (cwV 2 hts gL_law_X4_guess rfl rfl rfl hd_X4_guess ⟨Nat.le_of_ble_eq_true rfl, Nat.le_of_ble_eq_true rfl⟩) (Nat.le_of_ble_eq_true rfl) (cM_0 X2 m0) rfl rfl rfl (Nat.le_of_ble_eq_true rfl) hl.1 dL_law_251 hf (fun H2 locs2 hg2 => ?_)
  exact lv_icmp_eq hx hb dL_law_254 (tgt := 669) (by decide) (fun _ => kk _ _ _ _ J1 (LG_sw hg2)) (fun h => absurd rfl h)
theorem ca_guessWord (C : LC p m c s b L xs D X1 X2 i ls) (hg : LG D 44 X1 (zc shC X1 z) 9 X2 (zc shM X2 m0) s H locs) (J : JJ z m0) (hf : cells + 0 ≤ room_1.cells ∧ slots + 0 ≤ room_1.slots) (kk : ∀ (z' m' : zV) (H' : Heap) (locs' : List Loc), JJ z' m' → LG D 44 X1 (zc shC X1 z') 9 X2 (zc shM X2 m') s H' locs' → W p l e room_1 s m #[Value.ref b] below meth c H' locs' cells slots Q (F0 m 669 ls [])) : W p l e room_1 s m #[Value.ref b] below meth c H locs cells slots Q (F0 m 259 ls []) := by
  obtain ⟨S, K1, K2, I1, I2, XX, hX, hbl, hi, hL, hl⟩ := id C
  obtain ⟨hx, hb, -, -, hts⟩ := id S
  obtain ⟨r, z1, m1, e1, e2, J1⟩ := A_guessWord J ((xs (i + 1))) ((xs (i + 2)))
  refine lv_aload_n hx hb dL_law_259 rfl (lv_at hl 1 rfl) ?_
  refine L_arg C hg.2.2 1 (by omega) (by decide) dL_law_260 dL_law_261 dL_law_262 dL_law_263 dL_law_264 ?_
  refine L_arg C hg.2.2 2 (by omega) (by decide) dL_law_265 dL_law_266 dL_law_267 dL_law_268 dL_law_269 ?_
  refine L_w (As := [.int ((xs (i + 1))), .int ((xs (i + 2)))]) S K1 XX hg (c_X3_guessWord l D X1 z _ _ I1 e1) (cwV 2 hts gL_law_X3_guessWord rfl rfl rfl hd_X3_guessWord ⟨Nat.le_of_ble_eq_true rfl, Nat.le_of_ble_eq_true rfl⟩) (Nat.le_of_ble_eq_true rfl) (cC_42 X1 z) rfl rfl rfl (Nat.le_of_ble_eq_true rfl) hl.1 dL_law_270 hf (fun H1 locs1 hg1 => ?_)
  refine lv_aload_n hx hb dL_law_273 rfl (lv_at hl 2 rfl) ?_
  refine L_arg C hg1.2.2 1 (by omega) (by decide) dL_law_274 dL_law_275 dL_law_276 dL_law_277 dL_law_278 ?_
  refine L_arg C hg1.2.2 2 (by omega) (by decide) dL_law_279 dL_law_280 dL_law_281 dL_law_282 dL_law_283 ?_
  refine L_w (As := [.int ((xs (i + 1))), .int ((xs (i + 2)))]) S K2 (LX_sw XX) (LG_sw hg1) (c_X4_guessWord l D X2 m0 _ _ I2 e2) (cwV 2 hts gL_law_X4_guessWord rfl rfl rfl hd_X4_guessWord ⟨Nat.le_of_ble_eq_true rfl, Nat.le_of_ble_eq_true rfl⟩) (Nat.le_of_ble_eq_true rfl) (cM_0 X2 m0) rfl rfl rfl (Nat.le_of_ble_eq_true rfl) hl.1 dL_law_284 hf (fun H2 locs2 hg2 => ?_)
  exact lv_icmp_eq hx hb dL_law_287 (tgt := 669) (by decide) (fun _ => kk _ _ _ _ J1 (LG_sw hg2)) (fun h => absurd rfl h)
theorem ca_buy (C : LC p m c s b L xs D X1 X2 i ls) (hg : LG D 44 X1 (zc shC X1 z) 9 X2 (zc shM X2 m0) s H locs) (J : JJ z m0) (hf : cells + 0 ≤ room_1.cells ∧ slots + 0 ≤ room_1.slots) (kk : ∀ (z' m' : zV) (H' : Heap) (locs' : List Loc), JJ z' m' → LG D 44 X1 (zc shC X1 z') 9 X2 (zc shM X2 m') s H' locs' → W p l e room_1 s m #[Value.ref b] below meth c H' locs' cells slots Q (F0 m 669 ls [])) : W p l e room_1 s m #[Value.ref b] below meth c H locs cells slots Q (F0 m 292 ls []) := by
  obtain ⟨S, K1, K2, I1, I2, XX, hX, hbl, hi, hL, hl⟩ := id C
  obtain ⟨hx, hb, -, -, hts⟩ := id S
  obtain ⟨r, z1, m1, e1, e2, J1⟩ := A_buy J ((xs (i + 1)))
  refine lv_aload_n hx hb dL_law_292 rfl (lv_at hl 1 rfl) ?_
  refine L_arg C hg.2.2 1 (by omega) (by decide) dL_law_293 dL_law_294 dL_law_295 dL_law_296 dL_law_297 ?_
  refine L_w (As := [.int ((xs (i + 1)))]) S K1 XX hg (c_X3_buy l D X1 z _ I1 e1) (cwV 1 hts gL_law_X3_buy rfl rfl rfl hd_X3_buy ⟨Nat.le_of_ble_eq_true rfl, Nat.le_of_ble_eq_true rfl⟩) (Nat.le_of_ble_eq_true rfl) (cC_42 X1 z) rfl rfl rfl (Nat.le_of_ble_eq_true rfl) hl.1 dL_law_298 hf (fun H1 locs1 hg1 => ?_)
  refine lv_aload_n hx hb dL_law_301 rfl (lv_at hl 2 rfl) ?_
  refine L_arg C hg1.2.2 1 (by omega) (by decide) dL_law_302 dL_law_303 dL_law_304 dL_law_305 dL_law_306 ?_
  refine L_w (As := [.int ((xs (i + 1)))]) S K2 (LX_sw XX) (LG_sw hg1) (c_X4_buy l D X2 m0 _ I2 e2) (cwV 1 hts gL_law_X4_buy rfl rfl rfl hd_X4_buy ⟨Nat.le_of_ble_eq_true rfl, Nat.le_of_ble_eq_true rfl⟩) (Nat.le_of_ble_eq_true rfl) (cM_0 X2 m0) rfl rfl rfl (Nat.le_of_ble_eq_true rfl) hl.1 dL_law_307 hf (fun H2 locs2 hg2 => ?_)
  exact lv_icmp_eq hx hb dL_law_310 (tgt := 669) (by decide) (fun _ => kk _ _ _ _ J1 (LG_sw hg2)) (fun h => absurd rfl h)
theorem ca_check (C : LC p m c s b L xs D X1 X2 i ls) (hg : LG D 44 X1 (zc shC X1 z) 9 X2 (zc shM X2 m0) s H locs) (J : JJ z m0) (hf : cells + 0 ≤ room_1.cells ∧ slots + 0 ≤ room_1.slots) (kk : ∀ (z' m' : zV) (H' : Heap) (locs' : List Loc), JJ z' m' → LG D 44 X1 (zc shC X1 z') 9 X2 (zc shM X2 m') s H' locs' → W p l e room_1 s m #[Value.ref b] below meth c H' locs' cells slots Q (F0 m 669 ls [])) : W p l e room_1 s m #[Value.ref b] below meth c H locs cells slots Q (F0 m 315 ls []) := by
  obtain ⟨S, K1, K2, I1, I2, XX, hX, hbl, hi, hL, hl⟩ := id C
  obtain ⟨hx, hb, -, -, hts⟩ := id S
  obtain ⟨r, z1, m1, e1, e2, J1⟩ := A_check J ((xs (i + 1)))
  refine lv_aload_n hx hb dL_law_315 rfl (lv_at hl 1 rfl) ?_
  refine L_arg C hg.2.2 1 (by omega) (by decide) dL_law_316 dL_law_317 dL_law_318 dL_law_319 dL_law_320 ?_
  refine L_w (As := [.int ((xs (i + 1)))]) S K1 XX hg (c_X3_check l D X1 z _ I1 e1) (cwV 1 hts gL_law_X3_check rfl rfl rfl hd_X3_check ⟨Nat.le_of_ble_eq_true rfl, Nat.le_of_ble_eq_true rfl⟩) (Nat.le_of_ble_eq_true rfl) (cC_42 X1 z) rfl rfl rfl (Nat.le_of_ble_eq_true rfl) hl.1 dL_law_321 hf (fun H1 locs1 hg1 => ?_)
  refine lv_aload_n hx hb dL_law_324 rfl (lv_at hl 2 rfl) ?_
  refine L_arg C hg1.2.2 1 (by omega) (by decide) dL_law_325 dL_law_326 dL_law_327 dL_law_328 dL_law_329 ?_
  refine L_w (As := [.int ((xs (i + 1)))]) S K2 (LX_sw XX) (LG_sw hg1) (c_X4_check l D X2 m0 _ I2 e2) (cwV 1 hts gL_law_X4_check rfl rfl rfl hd_X4_check ⟨Nat.le_of_ble_eq_true rfl, Nat.le_of_ble_eq_true rfl⟩) (Nat.le_of_ble_eq_true rfl) (cM_0 X2 m0) rfl rfl rfl (Nat.le_of_ble_eq_true rfl) hl.1 dL_law_330 hf (fun H2 locs2 hg2 => ?_)
  exact lv_icmp_eq hx hb dL_law_333 (tgt := 669) (by decide) (fun _ => kk _ _ _ _ J1 (LG_sw hg2)) (fun h => absurd rfl h)
theorem ca_give (C : LC p m c s b L xs D X1 X2 i ls) (hg : LG D 44 X1 (zc shC X1 z) 9 X2 (zc shM X2 m0) s H locs) (J : JJ z m0) (hf : cells + 0 ≤ room_1.cells ∧ slots + 0 ≤ room_1.slots) (kk : ∀ (z' m' : zV) (H' : Heap) (locs' : List Loc), JJ z' m' → LG D 44 X1 (zc shC X1 z') 9 X2 (zc shM X2 m') s H' locs' → W p l e room_1 s m #[Value.ref b] below meth c H' locs' cells slots Q (F0 m 669 ls [])) : W p l e room_1 s m #[Value.ref b] below meth c H locs cells slots Q (F0 m 338 ls []) := by
  obtain ⟨S, K1, K2, I1, I2, XX, hX, hbl, hi, hL, hl⟩ := id C
  obtain ⟨hx, hb, -, -, hts⟩ := id S
  obtain ⟨r, z1, m1, e1, e2, J1⟩ := A_give J ((xs (i + 1)))
  refine lv_aload_n hx hb dL_law_338 rfl (lv_at hl 1 rfl) ?_
  refine L_arg C hg.2.2 1 (by omega) (by decide) dL_law_339 dL_law_340 dL_law_341 dL_law_342 dL_law_343 ?_
  refine L_w (As := [.int ((xs (i + 1)))]) S K1 XX hg (c_X3_give l D X1 z _ I1 e1) (cwV 1 hts gL_law_X3_give rfl rfl rfl hd_X3_give ⟨Nat.le_of_ble_eq_true rfl, Nat.le_of_ble_eq_true rfl⟩) (Nat.le_of_ble_eq_true rfl) (cC_42 X1 z) rfl rfl rfl (Nat.le_of_ble_eq_true rfl) hl.1 dL_law_344 hf (fun H1 locs1 hg1 => ?_)
  refine lv_aload_n hx hb dL_law_347 rfl (lv_at hl 2 rfl) ?_
  refine L_arg C hg1.2.2 1 (by omega) (by decide) dL_law_348 dL_law_349 dL_law_350 dL_law_351 dL_law_352 ?_
  refine L_w (As := [.int ((xs (i + 1)))]) S K2 (LX_sw XX) (LG_sw hg1) (c_X4_give l D X2 m0 _ I2 e2) (cwV 1 hts gL_law_X4_give rfl rfl rfl hd_X4_give ⟨Nat.le_of_ble_eq_true rfl, Nat.le_of_ble_eq_true rfl⟩) (Nat.le_of_ble_eq_true rfl) (cM_0 X2 m0) rfl rfl rfl (Nat.le_of_ble_eq_true rfl) hl.1 dL_law_353 hf (fun H2 locs2 hg2 => ?_)
  exact lv_icmp_eq hx hb dL_law_356 (tgt := 669) (by decide) (fun _ => kk _ _ _ _ J1 (LG_sw hg2)) (fun h => absurd rfl h)
theorem ca_type (C : LC p m c s b L xs D X1 X2 i ls) (hg : LG D 44 X1 (zc shC X1 z) 9 X2 (zc shM X2 m0) s H locs) (J : JJ z m0) (hf : cells + 0 ≤ room_1.cells ∧ slots + 0 ≤ room_1.slots) (kk : ∀ (z' m' : zV) (H' : Heap) (locs' : List Loc), JJ z' m' → LG D 44 X1 (zc shC X1 z') 9 X2 (zc shM X2 m') s H' locs' → W p l e room_1 s m #[Value.ref b] below meth c H' locs' cells slots Q (F0 m 669 ls [])) : W p l e room_1 s m #[Value.ref b] below meth c H locs cells slots Q (F0 m 361 ls []) := by
  obtain ⟨S, K1, K2, I1, I2, XX, hX, hbl, hi, hL, hl⟩ := id C
  obtain ⟨hx, hb, -, -, hts⟩ := id S
  obtain ⟨ch, hch, ech⟩ := i2c_nI (xs (i + 1))
  obtain ⟨r, z1, m1, e1, e2, J1⟩ := A_type J _ ch hch ech
  refine lv_aload_n hx hb dL_law_361 rfl (lv_at hl 1 rfl) ?_
  refine L_arg C hg.2.2 1 (by omega) (by decide) dL_law_362 dL_law_363 dL_law_364 dL_law_365 dL_law_366 ?_
  refine lv_i2c hx hb dL_law_367 rfl ?_
  refine L_w (As := [.int ((((xs (i + 1))).toUInt32 % 65536).toInt32)]) S K1 XX hg (c_X3_type l D X1 z _ I1 e1) (cwV 1 hts gL_law_X3_type rfl rfl rfl hd_X3_type ⟨Nat.le_of_ble_eq_true rfl, Nat.le_of_ble_eq_true rfl⟩) (Nat.le_of_ble_eq_true rfl) (cC_42 X1 z) rfl rfl rfl (Nat.le_of_ble_eq_true rfl) hl.1 dL_law_368 hf (fun H1 locs1 hg1 => ?_)
  refine lv_aload_n hx hb dL_law_371 rfl (lv_at hl 2 rfl) ?_
  refine L_arg C hg1.2.2 1 (by omega) (by decide) dL_law_372 dL_law_373 dL_law_374 dL_law_375 dL_law_376 ?_
  refine lv_i2c hx hb dL_law_377 rfl ?_
  refine L_w (As := [.int ((((xs (i + 1))).toUInt32 % 65536).toInt32)]) S K2 (LX_sw XX) (LG_sw hg1) (c_X4_type l D X2 m0 _ I2 e2) (cwV 1 hts gL_law_X4_type rfl rfl rfl hd_X4_type ⟨Nat.le_of_ble_eq_true rfl, Nat.le_of_ble_eq_true rfl⟩) (Nat.le_of_ble_eq_true rfl) (cM_0 X2 m0) rfl rfl rfl (Nat.le_of_ble_eq_true rfl) hl.1 dL_law_378 hf (fun H2 locs2 hg2 => ?_)
  exact lv_icmp_eq hx hb dL_law_381 (tgt := 669) (by decide) (fun _ => kk _ _ _ _ J1 (LG_sw hg2)) (fun h => absurd rfl h)
theorem ca_clearText (C : LC p m c s b L xs D X1 X2 i ls) (hg : LG D 44 X1 (zc shC X1 z) 9 X2 (zc shM X2 m0) s H locs) (J : JJ z m0) (hf : cells + 0 ≤ room_1.cells ∧ slots + 0 ≤ room_1.slots) (kk : ∀ (z' m' : zV) (H' : Heap) (locs' : List Loc), JJ z' m' → LG D 44 X1 (zc shC X1 z') 9 X2 (zc shM X2 m') s H' locs' → W p l e room_1 s m #[Value.ref b] below meth c H' locs' cells slots Q (F0 m 669 ls [])) : W p l e room_1 s m #[Value.ref b] below meth c H locs cells slots Q (F0 m 386 ls []) := by
  obtain ⟨S, K1, K2, I1, I2, XX, hX, hbl, hi, hL, hl⟩ := id C
  obtain ⟨hx, hb, -, -, hts⟩ := id S
  obtain ⟨r, z1, m1, e1, e2, J1⟩ := A_clearText J
  refine lv_aload_n hx hb dL_law_386 rfl (lv_at hl 1 rfl) ?_
  refine L_w (As := []) S K1 XX hg (c_X3_clearText l D X1 z I1 e1) (cwV 0 hts gL_law_X3_clearText rfl rfl rfl hd_X3_clearText ⟨Nat.le_of_ble_eq_true rfl, Nat.le_of_ble_eq_true rfl⟩) (Nat.le_of_ble_eq_true rfl) (cC_42 X1 z) rfl rfl rfl (Nat.le_of_ble_eq_true rfl) hl.1 dL_law_387 hf (fun H1 locs1 hg1 => ?_)
  refine lv_aload_n hx hb dL_law_390 rfl (lv_at hl 2 rfl) ?_
  refine L_w (As := []) S K2 (LX_sw XX) (LG_sw hg1) (c_X4_clearText l D X2 m0 I2 e2) (cwV 0 hts gL_law_X4_clearText rfl rfl rfl hd_X4_clearText ⟨Nat.le_of_ble_eq_true rfl, Nat.le_of_ble_eq_true rfl⟩) (Nat.le_of_ble_eq_true rfl) (cM_0 X2 m0) rfl rfl rfl (Nat.le_of_ble_eq_true rfl) hl.1 dL_law_391 hf (fun H2 locs2 hg2 => ?_)
  exact lv_icmp_eq hx hb dL_law_394 (tgt := 669) (by decide) (fun _ => kk _ _ _ _ J1 (LG_sw hg2)) (fun h => absurd rfl h)
theorem ca_undo (C : LC p m c s b L xs D X1 X2 i ls) (hg : LG D 44 X1 (zc shC X1 z) 9 X2 (zc shM X2 m0) s H locs) (J : JJ z m0) (hf : cells + 0 ≤ room_1.cells ∧ slots + 0 ≤ room_1.slots) (kk : ∀ (z' m' : zV) (H' : Heap) (locs' : List Loc), JJ z' m' → LG D 44 X1 (zc shC X1 z') 9 X2 (zc shM X2 m') s H' locs' → W p l e room_1 s m #[Value.ref b] below meth c H' locs' cells slots Q (F0 m 669 ls [])) : W p l e room_1 s m #[Value.ref b] below meth c H locs cells slots Q (F0 m 399 ls []) := by
  obtain ⟨S, K1, K2, I1, I2, XX, hX, hbl, hi, hL, hl⟩ := id C
  obtain ⟨hx, hb, -, -, hts⟩ := id S
  obtain ⟨r, z1, m1, e1, e2, J1⟩ := A_undo J
  refine lv_aload_n hx hb dL_law_399 rfl (lv_at hl 1 rfl) ?_
  refine L_w (As := []) S K1 XX hg (c_X3_undo l D X1 z I1 e1) (cwV 0 hts gL_law_X3_undo rfl rfl rfl hd_X3_undo ⟨Nat.le_of_ble_eq_true rfl, Nat.le_of_ble_eq_true rfl⟩) (Nat.le_of_ble_eq_true rfl) (cC_42 X1 z) rfl rfl rfl (Nat.le_of_ble_eq_true rfl) hl.1 dL_law_400 hf (fun H1 locs1 hg1 => ?_)
  refine lv_aload_n hx hb dL_law_403 rfl (lv_at hl 2 rfl) ?_
  refine L_w (As := []) S K2 (LX_sw XX) (LG_sw hg1) (c_X4_undo l D X2 m0 I2 e2) (cwV 0 hts gL_law_X4_undo rfl rfl rfl hd_X4_undo ⟨Nat.le_of_ble_eq_true rfl, Nat.le_of_ble_eq_true rfl⟩) (Nat.le_of_ble_eq_true rfl) (cM_0 X2 m0) rfl rfl rfl (Nat.le_of_ble_eq_true rfl) hl.1 dL_law_404 hf (fun H2 locs2 hg2 => ?_)
  exact lv_icmp_eq hx hb dL_law_407 (tgt := 669) (by decide) (fun _ => kk _ _ _ _ J1 (LG_sw hg2)) (fun h => absurd rfl h)
theorem ca_keep (C : LC p m c s b L xs D X1 X2 i ls) (hg : LG D 44 X1 (zc shC X1 z) 9 X2 (zc shM X2 m0) s H locs) (J : JJ z m0) (hf : cells + 0 ≤ room_1.cells ∧ slots + 0 ≤ room_1.slots) (kk : ∀ (z' m' : zV) (H' : Heap) (locs' : List Loc), JJ z' m' → LG D 44 X1 (zc shC X1 z') 9 X2 (zc shM X2 m') s H' locs' → W p l e room_1 s m #[Value.ref b] below meth c H' locs' cells slots Q (F0 m 669 ls [])) : W p l e room_1 s m #[Value.ref b] below meth c H locs cells slots Q (F0 m 412 ls []) := by
  obtain ⟨S, K1, K2, I1, I2, XX, hX, hbl, hi, hL, hl⟩ := id C
  obtain ⟨hx, hb, -, -, hts⟩ := id S
  obtain ⟨r, z1, m1, e1, e2, J1⟩ := A_keep J
  refine lv_aload_n hx hb dL_law_412 rfl (lv_at hl 1 rfl) ?_
  refine L_w (As := []) S K1 XX hg (c_X3_keep l D X1 z I1 e1) (cwV 0 hts gL_law_X3_keep rfl rfl rfl hd_X3_keep ⟨Nat.le_of_ble_eq_true rfl, Nat.le_of_ble_eq_true rfl⟩) (Nat.le_of_ble_eq_true rfl) (cC_42 X1 z) rfl rfl rfl (Nat.le_of_ble_eq_true rfl) hl.1 dL_law_413 hf (fun H1 locs1 hg1 => ?_)
  refine lv_aload_n hx hb dL_law_416 rfl (lv_at hl 2 rfl) ?_
  refine L_w (As := []) S K2 (LX_sw XX) (LG_sw hg1) (c_X4_keep l D X2 m0 I2 e2) (cwV 0 hts gL_law_X4_keep rfl rfl rfl hd_X4_keep ⟨Nat.le_of_ble_eq_true rfl, Nat.le_of_ble_eq_true rfl⟩) (Nat.le_of_ble_eq_true rfl) (cM_0 X2 m0) rfl rfl rfl (Nat.le_of_ble_eq_true rfl) hl.1 dL_law_417 hf (fun H2 locs2 hg2 => ?_)
  exact lv_icmp_eq hx hb dL_law_420 (tgt := 669) (by decide) (fun _ => kk _ _ _ _ J1 (LG_sw hg2)) (fun h => absurd rfl h)
theorem ca_restore (C : LC p m c s b L xs D X1 X2 i ls) (hg : LG D 44 X1 (zc shC X1 z) 9 X2 (zc shM X2 m0) s H locs) (J : JJ z m0) (hf : cells + 0 ≤ room_1.cells ∧ slots + 0 ≤ room_1.slots) (kk : ∀ (z' m' : zV) (H' : Heap) (locs' : List Loc), JJ z' m' → LG D 44 X1 (zc shC X1 z') 9 X2 (zc shM X2 m') s H' locs' → W p l e room_1 s m #[Value.ref b] below meth c H' locs' cells slots Q (F0 m 669 ls [])) : W p l e room_1 s m #[Value.ref b] below meth c H locs cells slots Q (F0 m 425 ls []) := by
  obtain ⟨S, K1, K2, I1, I2, XX, hX, hbl, hi, hL, hl⟩ := id C
  obtain ⟨hx, hb, -, -, hts⟩ := id S
  obtain ⟨r, z1, m1, e1, e2, J1⟩ := A_restore J
  refine lv_aload_n hx hb dL_law_425 rfl (lv_at hl 1 rfl) ?_
  refine L_w (As := []) S K1 XX hg (c_X3_restore l D X1 z I1 e1) (cwV 0 hts gL_law_X3_restore rfl rfl rfl hd_X3_restore ⟨Nat.le_of_ble_eq_true rfl, Nat.le_of_ble_eq_true rfl⟩) (Nat.le_of_ble_eq_true rfl) (cC_42 X1 z) rfl rfl rfl (Nat.le_of_ble_eq_true rfl) hl.1 dL_law_426 hf (fun H1 locs1 hg1 => ?_)
  refine lv_aload_n hx hb dL_law_429 rfl (lv_at hl 2 rfl) ?_
  refine L_w (As := []) S K2 (LX_sw XX) (LG_sw hg1) (c_X4_restore l D X2 m0 I2 e2) (cwV 0 hts gL_law_X4_restore rfl rfl rfl hd_X4_restore ⟨Nat.le_of_ble_eq_true rfl, Nat.le_of_ble_eq_true rfl⟩) (Nat.le_of_ble_eq_true rfl) (cM_0 X2 m0) rfl rfl rfl (Nat.le_of_ble_eq_true rfl) hl.1 dL_law_430 hf (fun H2 locs2 hg2 => ?_)
  exact lv_icmp_eq hx hb dL_law_433 (tgt := 669) (by decide) (fun _ => kk _ _ _ _ J1 (LG_sw hg2)) (fun h => absurd rfl h)
theorem ca_cell (C : LC p m c s b L xs D X1 X2 i ls) (hg : LG D 44 X1 (zc shC X1 z) 9 X2 (zc shM X2 m0) s H locs) (J : JJ z m0) (hf : cells + 0 ≤ room_1.cells ∧ slots + 0 ≤ room_1.slots) (kk : ∀ (z' m' : zV) (H' : Heap) (locs' : List Loc), JJ z' m' → LG D 44 X1 (zc shC X1 z') 9 X2 (zc shM X2 m') s H' locs' → W p l e room_1 s m #[Value.ref b] below meth c H' locs' cells slots Q (F0 m 669 ls [])) : W p l e room_1 s m #[Value.ref b] below meth c H locs cells slots Q (F0 m 438 ls []) := by
  obtain ⟨S, K1, K2, I1, I2, XX, hX, hbl, hi, hL, hl⟩ := id C
  obtain ⟨hx, hb, -, -, hts⟩ := id S
  obtain ⟨r, m1, e1, e2, J1⟩ := B_cell J ((xs (i + 1))) ((xs (i + 2))) ((xs (i + 3)))
  refine lv_aload_n hx hb dL_law_438 rfl (lv_at hl 1 rfl) ?_
  refine L_arg C hg.2.2 1 (by omega) (by decide) dL_law_439 dL_law_440 dL_law_441 dL_law_442 dL_law_443 ?_
  refine L_arg C hg.2.2 2 (by omega) (by decide) dL_law_444 dL_law_445 dL_law_446 dL_law_447 dL_law_448 ?_
  refine L_arg C hg.2.2 3 (by omega) (by decide) dL_law_449 dL_law_450 dL_law_451 dL_law_452 dL_law_453 ?_
  refine L_r (n2 := 9) (X2 := X2) (c2 := zc shM X2 m0) (As := [.int ((xs (i + 1))), .int ((xs (i + 2))), .int ((xs (i + 3)))]) S K1 hg (c_X3_cell l D X1 z _ _ _ I1 e1) (cwV 3 hts gL_law_X3_cell rfl rfl rfl hd_X3_cell ⟨Nat.le_of_ble_eq_true rfl, Nat.le_of_ble_eq_true rfl⟩) (Nat.le_of_ble_eq_true rfl) (cC_42 X1 z) rfl rfl rfl (Nat.le_of_ble_eq_true rfl) hl.1 dL_law_454 hf ?_
  refine lv_aload_n hx hb dL_law_457 rfl (lv_at hl 2 rfl) ?_
  refine L_arg C hg.2.2 1 (by omega) (by decide) dL_law_458 dL_law_459 dL_law_460 dL_law_461 dL_law_462 ?_
  refine L_arg C hg.2.2 2 (by omega) (by decide) dL_law_463 dL_law_464 dL_law_465 dL_law_466 dL_law_467 ?_
  refine L_arg C hg.2.2 3 (by omega) (by decide) dL_law_468 dL_law_469 dL_law_470 dL_law_471 dL_law_472 ?_
  refine L_w (As := [.int ((xs (i + 1))), .int ((xs (i + 2))), .int ((xs (i + 3)))]) S K2 (LX_sw XX) (LG_sw hg) (c_X4_cell l D X2 m0 _ _ _ I2 e2) (cwV 3 hts gL_law_X4_cell rfl rfl rfl hd_X4_cell ⟨Nat.le_of_ble_eq_true rfl, Nat.le_of_ble_eq_true rfl⟩) (Nat.le_of_ble_eq_true rfl) (cM_0 X2 m0) rfl rfl rfl (Nat.le_of_ble_eq_true rfl) hl.1 dL_law_473 hf (fun H2 locs2 hg2 => ?_)
  exact lv_icmp_eq hx hb dL_law_476 (tgt := 669) (by decide) (fun _ => kk _ _ _ _ J1 (LG_sw hg2)) (fun h => absurd rfl h)
theorem ca_number (C : LC p m c s b L xs D X1 X2 i ls) (hg : LG D 44 X1 (zc shC X1 z) 9 X2 (zc shM X2 m0) s H locs) (J : JJ z m0) (hf : cells + 0 ≤ room_1.cells ∧ slots + 0 ≤ room_1.slots) (kk : ∀ (z' m' : zV) (H' : Heap) (locs' : List Loc), JJ z' m' → LG D 44 X1 (zc shC X1 z') 9 X2 (zc shM X2 m') s H' locs' → W p l e room_1 s m #[Value.ref b] below meth c H' locs' cells slots Q (F0 m 669 ls [])) : W p l e room_1 s m #[Value.ref b] below meth c H locs cells slots Q (F0 m 481 ls []) := by
  obtain ⟨S, K1, K2, I1, I2, XX, hX, hbl, hi, hL, hl⟩ := id C
  obtain ⟨hx, hb, -, -, hts⟩ := id S
  obtain ⟨r, m1, e1, e2, J1⟩ := B_number J ((xs (i + 1))) ((xs (i + 2)))
  refine lv_aload_n hx hb dL_law_481 rfl (lv_at hl 1 rfl) ?_
  refine L_arg C hg.2.2 1 (by omega) (by decide) dL_law_482 dL_law_483 dL_law_484 dL_law_485 dL_law_486 ?_
  refine L_arg C hg.2.2 2 (by omega) (by decide) dL_law_487 dL_law_488 dL_law_489 dL_law_490 dL_law_491 ?_
  refine L_r (n2 := 9) (X2 := X2) (c2 := zc shM X2 m0) (As := [.int ((xs (i + 1))), .int ((xs (i + 2)))]) S K1 hg (c_X3_number l D X1 z _ _ I1 e1) (cwV 2 hts gL_law_X3_number rfl rfl rfl hd_X3_number ⟨Nat.le_of_ble_eq_true rfl, Nat.le_of_ble_eq_true rfl⟩) (Nat.le_of_ble_eq_true rfl) (cC_42 X1 z) rfl rfl rfl (Nat.le_of_ble_eq_true rfl) hl.1 dL_law_492 hf ?_
  refine lv_aload_n hx hb dL_law_495 rfl (lv_at hl 2 rfl) ?_
  refine L_arg C hg.2.2 1 (by omega) (by decide) dL_law_496 dL_law_497 dL_law_498 dL_law_499 dL_law_500 ?_
  refine L_arg C hg.2.2 2 (by omega) (by decide) dL_law_501 dL_law_502 dL_law_503 dL_law_504 dL_law_505 ?_
  refine L_w (As := [.int ((xs (i + 1))), .int ((xs (i + 2)))]) S K2 (LX_sw XX) (LG_sw hg) (c_X4_number l D X2 m0 _ _ I2 e2) (cwV 2 hts gL_law_X4_number rfl rfl rfl hd_X4_number ⟨Nat.le_of_ble_eq_true rfl, Nat.le_of_ble_eq_true rfl⟩) (Nat.le_of_ble_eq_true rfl) (cM_0 X2 m0) rfl rfl rfl (Nat.le_of_ble_eq_true rfl) hl.1 dL_law_506 hf (fun H2 locs2 hg2 => ?_)
  exact lv_icmp_eq hx hb dL_law_509 (tgt := 669) (by decide) (fun _ => kk _ _ _ _ J1 (LG_sw hg2)) (fun h => absurd rfl h)
theorem ca_word (C : LC p m c s b L xs D X1 X2 i ls) (hg : LG D 44 X1 (zc shC X1 z) 9 X2 (zc shM X2 m0) s H locs) (J : JJ z m0) (hf : cells + 0 ≤ room_1.cells ∧ slots + 0 ≤ room_1.slots) (kk : ∀ (z' m' : zV) (H' : Heap) (locs' : List Loc), JJ z' m' → LG D 44 X1 (zc shC X1 z') 9 X2 (zc shM X2 m') s H' locs' → W p l e room_1 s m #[Value.ref b] below meth c H' locs' cells slots Q (F0 m 669 ls [])) : W p l e room_1 s m #[Value.ref b] below meth c H locs cells slots Q (F0 m 514 ls []) := by
  obtain ⟨S, K1, K2, I1, I2, XX, hX, hbl, hi, hL, hl⟩ := id C
  obtain ⟨hx, hb, -, -, hts⟩ := id S
  obtain ⟨r, m1, e1, e2, J1⟩ := B_word J ((xs (i + 1))) ((xs (i + 2)))
  refine lv_aload_n hx hb dL_law_514 rfl (lv_at hl 1 rfl) ?_
  refine L_arg C hg.2.2 1 (by omega) (by decide) dL_law_515 dL_law_516 dL_law_517 dL_law_518 dL_law_519 ?_
  refine L_arg C hg.2.2 2 (by omega) (by decide) dL_law_520 dL_law_521 dL_law_522 dL_law_523 dL_law_524 ?_
  refine L_r (n2 := 9) (X2 := X2) (c2 := zc shM X2 m0) (As := [.int ((xs (i + 1))), .int ((xs (i + 2)))]) S K1 hg (c_X3_word l D X1 z _ _ I1 e1) (cwV 2 hts gL_law_X3_word rfl rfl rfl hd_X3_word ⟨Nat.le_of_ble_eq_true rfl, Nat.le_of_ble_eq_true rfl⟩) (Nat.le_of_ble_eq_true rfl) (cC_42 X1 z) rfl rfl rfl (Nat.le_of_ble_eq_true rfl) hl.1 dL_law_525 hf ?_
  refine lv_aload_n hx hb dL_law_528 rfl (lv_at hl 2 rfl) ?_
  refine L_arg C hg.2.2 1 (by omega) (by decide) dL_law_529 dL_law_530 dL_law_531 dL_law_532 dL_law_533 ?_
  refine L_arg C hg.2.2 2 (by omega) (by decide) dL_law_534 dL_law_535 dL_law_536 dL_law_537 dL_law_538 ?_
  refine L_w (As := [.int ((xs (i + 1))), .int ((xs (i + 2)))]) S K2 (LX_sw XX) (LG_sw hg) (c_X4_word l D X2 m0 _ _ I2 e2) (cwV 2 hts gL_law_X4_word rfl rfl rfl hd_X4_word ⟨Nat.le_of_ble_eq_true rfl, Nat.le_of_ble_eq_true rfl⟩) (Nat.le_of_ble_eq_true rfl) (cM_0 X2 m0) rfl rfl rfl (Nat.le_of_ble_eq_true rfl) hl.1 dL_law_539 hf (fun H2 locs2 hg2 => ?_)
  exact lv_icmp_eq hx hb dL_law_542 (tgt := 669) (by decide) (fun _ => kk _ _ _ _ J1 (LG_sw hg2)) (fun h => absurd rfl h)
theorem ca_fits (C : LC p m c s b L xs D X1 X2 i ls) (hg : LG D 44 X1 (zc shC X1 z) 9 X2 (zc shM X2 m0) s H locs) (J : JJ z m0) (hf : cells + 0 ≤ room_1.cells ∧ slots + 0 ≤ room_1.slots) (kk : ∀ (z' m' : zV) (H' : Heap) (locs' : List Loc), JJ z' m' → LG D 44 X1 (zc shC X1 z') 9 X2 (zc shM X2 m') s H' locs' → W p l e room_1 s m #[Value.ref b] below meth c H' locs' cells slots Q (F0 m 669 ls [])) : W p l e room_1 s m #[Value.ref b] below meth c H locs cells slots Q (F0 m 547 ls []) := by
  obtain ⟨S, K1, K2, I1, I2, XX, hX, hbl, hi, hL, hl⟩ := id C
  obtain ⟨hx, hb, -, -, hts⟩ := id S
  obtain ⟨r, m1, e1, e2, J1⟩ := B_fits J ((xs (i + 1))) ((xs (i + 2)))
  refine lv_aload_n hx hb dL_law_547 rfl (lv_at hl 1 rfl) ?_
  refine L_arg C hg.2.2 1 (by omega) (by decide) dL_law_548 dL_law_549 dL_law_550 dL_law_551 dL_law_552 ?_
  refine L_arg C hg.2.2 2 (by omega) (by decide) dL_law_553 dL_law_554 dL_law_555 dL_law_556 dL_law_557 ?_
  refine L_r (n2 := 9) (X2 := X2) (c2 := zc shM X2 m0) (As := [.int ((xs (i + 1))), .int ((xs (i + 2)))]) S K1 hg (c_X3_fits l D X1 z _ _ I1 e1) (cwV 2 hts gL_law_X3_fits rfl rfl rfl hd_X3_fits ⟨Nat.le_of_ble_eq_true rfl, Nat.le_of_ble_eq_true rfl⟩) (Nat.le_of_ble_eq_true rfl) (cC_42 X1 z) rfl rfl rfl (Nat.le_of_ble_eq_true rfl) hl.1 dL_law_558 hf ?_
  refine lv_aload_n hx hb dL_law_561 rfl (lv_at hl 2 rfl) ?_
  refine L_arg C hg.2.2 1 (by omega) (by decide) dL_law_562 dL_law_563 dL_law_564 dL_law_565 dL_law_566 ?_
  refine L_arg C hg.2.2 2 (by omega) (by decide) dL_law_567 dL_law_568 dL_law_569 dL_law_570 dL_law_571 ?_
  refine L_w (As := [.int ((xs (i + 1))), .int ((xs (i + 2)))]) S K2 (LX_sw XX) (LG_sw hg) (c_X4_fits l D X2 m0 _ _ I2 e2) (cwV 2 hts gL_law_X4_fits rfl rfl rfl hd_X4_fits ⟨Nat.le_of_ble_eq_true rfl, Nat.le_of_ble_eq_true rfl⟩) (Nat.le_of_ble_eq_true rfl) (cM_0 X2 m0) rfl rfl rfl (Nat.le_of_ble_eq_true rfl) hl.1 dL_law_572 hf (fun H2 locs2 hg2 => ?_)
  exact lv_icmp_eq hx hb dL_law_575 (tgt := 669) (by decide) (fun _ => kk _ _ _ _ J1 (LG_sw hg2)) (fun h => absurd rfl h)
theorem ca_listed (C : LC p m c s b L xs D X1 X2 i ls) (hg : LG D 44 X1 (zc shC X1 z) 9 X2 (zc shM X2 m0) s H locs) (J : JJ z m0) (hf : cells + 0 ≤ room_1.cells ∧ slots + 0 ≤ room_1.slots) (kk : ∀ (z' m' : zV) (H' : Heap) (locs' : List Loc), JJ z' m' → LG D 44 X1 (zc shC X1 z') 9 X2 (zc shM X2 m') s H' locs' → W p l e room_1 s m #[Value.ref b] below meth c H' locs' cells slots Q (F0 m 669 ls [])) : W p l e room_1 s m #[Value.ref b] below meth c H locs cells slots Q (F0 m 580 ls []) := by
  obtain ⟨S, K1, K2, I1, I2, XX, hX, hbl, hi, hL, hl⟩ := id C
  obtain ⟨hx, hb, -, -, hts⟩ := id S
  obtain ⟨r, m1, e1, e2, J1⟩ := B_listed J ((xs (i + 1))) ((xs (i + 2)))
  refine lv_aload_n hx hb dL_law_580 rfl (lv_at hl 1 rfl) ?_
  refine L_arg C hg.2.2 1 (by omega) (by decide) dL_law_581 dL_law_582 dL_law_583 dL_law_584 dL_law_585 ?_
  refine L_arg C hg.2.2 2 (by omega) (by decide) dL_law_586 dL_law_587 dL_law_588 dL_law_589 dL_law_590 ?_
  refine L_r (n2 := 9) (X2 := X2) (c2 := zc shM X2 m0) (As := [.int ((xs (i + 1))), .int ((xs (i + 2)))]) S K1 hg (c_X3_listed l D X1 z _ _ I1 e1) (cwV 2 hts gL_law_X3_listed rfl rfl rfl hd_X3_listed ⟨Nat.le_of_ble_eq_true rfl, Nat.le_of_ble_eq_true rfl⟩) (Nat.le_of_ble_eq_true rfl) (cC_42 X1 z) rfl rfl rfl (Nat.le_of_ble_eq_true rfl) hl.1 dL_law_591 hf ?_
  refine lv_aload_n hx hb dL_law_594 rfl (lv_at hl 2 rfl) ?_
  refine L_arg C hg.2.2 1 (by omega) (by decide) dL_law_595 dL_law_596 dL_law_597 dL_law_598 dL_law_599 ?_
  refine L_arg C hg.2.2 2 (by omega) (by decide) dL_law_600 dL_law_601 dL_law_602 dL_law_603 dL_law_604 ?_
  refine L_w (As := [.int ((xs (i + 1))), .int ((xs (i + 2)))]) S K2 (LX_sw XX) (LG_sw hg) (c_X4_listed l D X2 m0 _ _ I2 e2) (cwV 2 hts gL_law_X4_listed rfl rfl rfl hd_X4_listed ⟨Nat.le_of_ble_eq_true rfl, Nat.le_of_ble_eq_true rfl⟩) (Nat.le_of_ble_eq_true rfl) (cM_0 X2 m0) rfl rfl rfl (Nat.le_of_ble_eq_true rfl) hl.1 dL_law_605 hf (fun H2 locs2 hg2 => ?_)
  exact lv_icmp_eq hx hb dL_law_608 (tgt := 669) (by decide) (fun _ => kk _ _ _ _ J1 (LG_sw hg2)) (fun h => absurd rfl h)
theorem ca_could (C : LC p m c s b L xs D X1 X2 i ls) (hg : LG D 44 X1 (zc shC X1 z) 9 X2 (zc shM X2 m0) s H locs) (J : JJ z m0) (hf : cells + 0 ≤ room_1.cells ∧ slots + 0 ≤ room_1.slots) (kk : ∀ (z' m' : zV) (H' : Heap) (locs' : List Loc), JJ z' m' → LG D 44 X1 (zc shC X1 z') 9 X2 (zc shM X2 m') s H' locs' → W p l e room_1 s m #[Value.ref b] below meth c H' locs' cells slots Q (F0 m 669 ls [])) : W p l e room_1 s m #[Value.ref b] below meth c H locs cells slots Q (F0 m 613 ls []) := by
  obtain ⟨S, K1, K2, I1, I2, XX, hX, hbl, hi, hL, hl⟩ := id C
  obtain ⟨hx, hb, -, -, hts⟩ := id S
  obtain ⟨r, m1, e1, e2, J1⟩ := B_could J ((xs (i + 1))) ((xs (i + 2)))
  refine lv_aload_n hx hb dL_law_613 rfl (lv_at hl 1 rfl) ?_
  refine L_arg C hg.2.2 1 (by omega) (by decide) dL_law_614 dL_law_615 dL_law_616 dL_law_617 dL_law_618 ?_
  refine L_arg C hg.2.2 2 (by omega) (by decide) dL_law_619 dL_law_620 dL_law_621 dL_law_622 dL_law_623 ?_
  refine L_r (n2 := 9) (X2 := X2) (c2 := zc shM X2 m0) (As := [.int ((xs (i + 1))), .int ((xs (i + 2)))]) S K1 hg (c_X3_could l D X1 z _ _ I1 e1) (cwV 2 hts gL_law_X3_could rfl rfl rfl hd_X3_could ⟨Nat.le_of_ble_eq_true rfl, Nat.le_of_ble_eq_true rfl⟩) (Nat.le_of_ble_eq_true rfl) (cC_42 X1 z) rfl rfl rfl (Nat.le_of_ble_eq_true rfl) hl.1 dL_law_624 hf ?_
  refine lv_aload_n hx hb dL_law_627 rfl (lv_at hl 2 rfl) ?_
  refine L_arg C hg.2.2 1 (by omega) (by decide) dL_law_628 dL_law_629 dL_law_630 dL_law_631 dL_law_632 ?_
  refine L_arg C hg.2.2 2 (by omega) (by decide) dL_law_633 dL_law_634 dL_law_635 dL_law_636 dL_law_637 ?_
  refine L_w (As := [.int ((xs (i + 1))), .int ((xs (i + 2)))]) S K2 (LX_sw XX) (LG_sw hg) (c_X4_could l D X2 m0 _ _ I2 e2) (cwV 2 hts gL_law_X4_could rfl rfl rfl hd_X4_could ⟨Nat.le_of_ble_eq_true rfl, Nat.le_of_ble_eq_true rfl⟩) (Nat.le_of_ble_eq_true rfl) (cM_0 X2 m0) rfl rfl rfl (Nat.le_of_ble_eq_true rfl) hl.1 dL_law_638 hf (fun H2 locs2 hg2 => ?_)
  exact lv_icmp_eq hx hb dL_law_641 (tgt := 669) (by decide) (fun _ => kk _ _ _ _ J1 (LG_sw hg2)) (fun h => absurd rfl h)
theorem ca_count (C : LC p m c s b L xs D X1 X2 i ls) (hg : LG D 44 X1 (zc shC X1 z) 9 X2 (zc shM X2 m0) s H locs) (J : JJ z m0) (hf : cells + 0 ≤ room_1.cells ∧ slots + 0 ≤ room_1.slots) (kk : ∀ (z' m' : zV) (H' : Heap) (locs' : List Loc), JJ z' m' → LG D 44 X1 (zc shC X1 z') 9 X2 (zc shM X2 m') s H' locs' → W p l e room_1 s m #[Value.ref b] below meth c H' locs' cells slots Q (F0 m 669 ls [])) : W p l e room_1 s m #[Value.ref b] below meth c H locs cells slots Q (F0 m 646 ls []) := by
  obtain ⟨S, K1, K2, I1, I2, XX, hX, hbl, hi, hL, hl⟩ := id C
  obtain ⟨hx, hb, -, -, hts⟩ := id S
  obtain ⟨r, m1, e1, e2, J1⟩ := B_count J ((xs (i + 1)))
  refine lv_aload_n hx hb dL_law_646 rfl (lv_at hl 1 rfl) ?_
  refine L_arg C hg.2.2 1 (by omega) (by decide) dL_law_647 dL_law_648 dL_law_649 dL_law_650 dL_law_651 ?_
  refine L_r (n2 := 9) (X2 := X2) (c2 := zc shM X2 m0) (As := [.int ((xs (i + 1)))]) S K1 hg (c_X3_count l D X1 z _ I1 e1) (cwV 1 hts gL_law_X3_count rfl rfl rfl hd_X3_count ⟨Nat.le_of_ble_eq_true rfl, Nat.le_of_ble_eq_true rfl⟩) (Nat.le_of_ble_eq_true rfl) (cC_42 X1 z) rfl rfl rfl (Nat.le_of_ble_eq_true rfl) hl.1 dL_law_652 hf ?_
  refine lv_aload_n hx hb dL_law_655 rfl (lv_at hl 2 rfl) ?_
  refine L_arg C hg.2.2 1 (by omega) (by decide) dL_law_656 dL_law_657 dL_law_658 dL_law_659 dL_law_660 ?_
  refine L_w (As := [.int ((xs (i + 1)))]) S K2 (LX_sw XX) (LG_sw hg) (c_X4_count l D X2 m0 _ I2 e2) (cwV 1 hts gL_law_X4_count rfl rfl rfl hd_X4_count ⟨Nat.le_of_ble_eq_true rfl, Nat.le_of_ble_eq_true rfl⟩) (Nat.le_of_ble_eq_true rfl) (cM_0 X2 m0) rfl rfl rfl (Nat.le_of_ble_eq_true rfl) hl.1 dL_law_661 hf (fun H2 locs2 hg2 => ?_)
  exact lv_icmp_eq hx hb dL_law_664 (tgt := 669) (by decide) (fun _ => kk _ _ _ _ J1 (LG_sw hg2)) (fun h => absurd rfl h)
end LCs
