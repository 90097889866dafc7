/-! CONSTRUCTORS (5): SoldLetters (made by tools/ctors2.py) -/
theorem keyB_eq {D : va_G} {cl : List vw_C} {tys : List (ClassId × FieldType)} {U : State} (hK : va_K D cl tys U) {i j : Nat} {c1 c2 : ClassId} (h1 : tys[i]? = some (c1, .boolean)) (h2 : tys[j]? = some (c2, .boolean)) : c1 = c2 := by
  have a : U.vm.findClass ("[" ++ FieldType.boolean.toString) = some c1 := (hK.2 i _ h1).2
  have b : U.vm.findClass ("[" ++ FieldType.boolean.toString) = some c2 := (hK.2 j _ h2).2
  rw [a] at b
  exact Option.some.inj b
theorem ref_cell {cA : ClassId} {n : Nat} {f g : Nat → Option Nat} (h : ∀ j, j < n → f j = g j) : vp_cell cA (n, .inr (.inr (.inr (.inr f)))) = vp_cell cA (n, .inr (.inr (.inr (.inr g)))) := by
  have e : (fun j : Fin n => va_rf (f j.val)) = (fun j : Fin n => va_rf (g j.val)) := funext fun j => by rw [h j.val j.isLt]
  show ({ cls := cA, slots := Array.ofFn (n := n) fun j => va_rf (f j.val), vm := .none } : Cell) = { cls := cA, slots := Array.ofFn (n := n) fun j => va_rf (g j.val), vm := .none }
  rw [e]
theorem zw_Dc {A : Nat → Prop} {n : Nat} {ad : Nat → Nat} {c1 c2 : Nat → va_E} (h : va_D A (zw_ws n ad c1)) : va_D A (zw_ws n ad c2) := ⟨fun i j x y hi hj e => by
  obtain ⟨a1, rfl⟩ := zw_key hi
  obtain ⟨b1, rfl⟩ := zw_key hj
  exact h.1 i j _ _ (zw_get a1 rfl) (zw_get b1 rfl) e, fun k x hk => by
  obtain ⟨a1, rfl⟩ := zw_key hk
  exact h.2 k (ad k, c1 k) (zw_get a1 rfl)⟩
theorem zw_Di {A : Nat → Prop} {n : Nat} {ad : Nat → Nat} {c1 : Nat → va_E} (h : va_D A (zw_ws n ad c1)) : zw_inj n ad := fun i j hi hj e => h.1 i j _ _ (zw_get hi rfl) (zw_get hj rfl) e
def caAd (L : List Nat) : Nat → Nat := fun r => L.getD r 0
def caOb (h0 : Nat) (v0 v1 v2 v3 v4 : Value) : va_W := [(h0, .inr (3, [v0, v1, v2, v3, v4, .int 0, .int 0]))]
def caHi (q : Nat) (c : ClassId) (f : Nat → Option Nat) : va_W := [(q, .inl (c, 4, .inr (.inr (.inr (.inr f)))))]
set_option maxHeartbeats 8000000 in
set_option maxRecDepth 100000 in
/-- the cells that the constructor made, in the order of their roles -/
theorem ca_world {D : va_G} {A : Nat → Prop} {H : Heap} {xA0 xA1 xA2 xA3 xA4 xA5 x00 x01 x02 x03 x04 x05 x10 x11 x12 x13 x14 x15 x20 x21 x22 x23 x24 x25 x30 x31 x32 x33 x34 x35 xN0 xN1 xN2 xN3 xN4 xN5 xW0 xW1 xW2 xW3 xT0 xT1 h0 xH : Nat} {cI cB cH : ClassId} (hP : va_P D vwCl (caOb h0 (.ref xA0) (.ref xW0) (.ref xT0) (.ref xH) (.ref xN0) ++ stOf xA0 xA1 xA2 xA3 xA4 xA5 cI cI cB cI cI ++ wdOf xW0 xW1 xW2 xW3 cI cI cI ++ txOf xT0 xT1 cI ++ caHi xH cH (va_up (va_up (va_up (va_up (fun _ => none) 0 (some x00)) 1 (some x10)) 2 (some x20)) 3 (some x30)) ++ stOf xN0 xN1 xN2 xN3 xN4 xN5 cI cI cB cI cI ++ stOf x00 x01 x02 x03 x04 x05 cI cI cB cI cI ++ stOf x10 x11 x12 x13 x14 x15 cI cI cB cI cI ++ stOf x20 x21 x22 x23 x24 x25 cI cI cB cI cI ++ stOf x30 x31 x32 x33 x34 x35 cI cI cB cI cI) H) (hD : va_D A (caOb h0 (.ref xA0) (.ref xW0) (.ref xT0) (.ref xH) (.ref xN0) ++ stOf xA0 xA1 xA2 xA3 xA4 xA5 cI cI cB cI cI ++ wdOf xW0 xW1 xW2 xW3 cI cI cI ++ txOf xT0 xT1 cI ++ caHi xH cH (va_up (va_up (va_up (va_up (fun _ => none) 0 (some x00)) 1 (some x10)) 2 (some x20)) 3 (some x30)) ++ stOf xN0 xN1 xN2 xN3 xN4 xN5 cI cI cB cI cI ++ stOf x00 x01 x02 x03 x04 x05 cI cI cB cI cI ++ stOf x10 x11 x12 x13 x14 x15 cI cI cB cI cI ++ stOf x20 x21 x22 x23 x24 x25 cI cI cB cI cI ++ stOf x30 x31 x32 x33 x34 x35 cI cI cB cI cI)) : va_P D vwCl (zw_ws 44 (caAd [xA0, xA1, xA2, xA3, xA4, xA5, x00, x01, x02, x03, x04, x05, x10, x11, x12, x13, x14, x15, x20, x21, x22, x23, x24, x25, x30, x31, x32, x33, x34, x35, xN0, xN1, xN2, xN3, xN4, xN5, xW0, xW1, xW2, xW3, xT0, xT1, h0, xH]) (zc shC (caAd [xA0, xA1, xA2, xA3, xA4, xA5, x00, x01, x02, x03, x04, x05, x10, x11, x12, x13, x14, x15, x20, x21, x22, x23, x24, x25, x30, x31, x32, x33, x34, x35, xN0, xN1, xN2, xN3, xN4, xN5, xW0, xW1, xW2, xW3, xT0, xT1, h0, xH], cI, cB, cH) zS0)) H ∧ va_D A (zw_ws 44 (caAd [xA0, xA1, xA2, xA3, xA4, xA5, x00, x01, x02, x03, x04, x05, x10, x11, x12, x13, x14, x15, x20, x21, x22, x23, x24, x25, x30, x31, x32, x33, x34, x35, xN0, xN1, xN2, xN3, xN4, xN5, xW0, xW1, xW2, xW3, xT0, xT1, h0, xH]) (zc shC (caAd [xA0, xA1, xA2, xA3, xA4, xA5, x00, x01, x02, x03, x04, x05, x10, x11, x12, x13, x14, x15, x20, x21, x22, x23, x24, x25, x30, x31, x32, x33, x34, x35, xN0, xN1, xN2, xN3, xN4, xN5, xW0, xW1, xW2, xW3, xT0, xT1, h0, xH], cI, cB, cH) zS0)) := by
  have e : [1, 2, 3, 4, 5, 6, 20, 21, 22, 23, 24, 25, 26, 27, 28, 29, 30, 31, 32, 33, 34, 35, 36, 37, 38, 39, 40, 41, 42, 43, 14, 15, 16, 17, 18, 19, 7, 8, 9, 10, 11, 12, 0, 13].map (fun i => (caOb h0 (.ref xA0) (.ref xW0) (.ref xT0) (.ref xH) (.ref xN0) ++ stOf xA0 xA1 xA2 xA3 xA4 xA5 cI cI cB cI cI ++ wdOf xW0 xW1 xW2 xW3 cI cI cI ++ txOf xT0 xT1 cI ++ caHi xH cH (va_up (va_up (va_up (va_up (fun _ => none) 0 (some x00)) 1 (some x10)) 2 (some x20)) 3 (some x30)) ++ stOf xN0 xN1 xN2 xN3 xN4 xN5 cI cI cB cI cI ++ stOf x00 x01 x02 x03 x04 x05 cI cI cB cI cI ++ stOf x10 x11 x12 x13 x14 x15 cI cI cB cI cI ++ stOf x20 x21 x22 x23 x24 x25 cI cI cB cI cI ++ stOf x30 x31 x32 x33 x34 x35 cI cI cB cI cI)[i]?) = (zw_ws 44 (caAd [xA0, xA1, xA2, xA3, xA4, xA5, x00, x01, x02, x03, x04, x05, x10, x11, x12, x13, x14, x15, x20, x21, x22, x23, x24, x25, x30, x31, x32, x33, x34, x35, xN0, xN1, xN2, xN3, xN4, xN5, xW0, xW1, xW2, xW3, xT0, xT1, h0, xH]) (fun j => if j = 43 then .inl (cH, 4, .inr (.inr (.inr (.inr (va_up (va_up (va_up (va_up (fun _ => none) 0 (some x00)) 1 (some x10)) 2 (some x20)) 3 (some x30)))))) else zc shC (caAd [xA0, xA1, xA2, xA3, xA4, xA5, x00, x01, x02, x03, x04, x05, x10, x11, x12, x13, x14, x15, x20, x21, x22, x23, x24, x25, x30, x31, x32, x33, x34, x35, xN0, xN1, xN2, xN3, xN4, xN5, xW0, xW1, xW2, xW3, xT0, xT1, h0, xH], cI, cB, cH) zS0 j)).map some := rfl
  have e2 : [1, 2, 3, 4, 5, 6, 20, 21, 22, 23, 24, 25, 26, 27, 28, 29, 30, 31, 32, 33, 34, 35, 36, 37, 38, 39, 40, 41, 42, 43, 14, 15, 16, 17, 18, 19, 7, 8, 9, 10, 11, 12, 0, 13].filterMap (fun i => (caOb h0 (.ref xA0) (.ref xW0) (.ref xT0) (.ref xH) (.ref xN0) ++ stOf xA0 xA1 xA2 xA3 xA4 xA5 cI cI cB cI cI ++ wdOf xW0 xW1 xW2 xW3 cI cI cI ++ txOf xT0 xT1 cI ++ caHi xH cH (va_up (va_up (va_up (va_up (fun _ => none) 0 (some x00)) 1 (some x10)) 2 (some x20)) 3 (some x30)) ++ stOf xN0 xN1 xN2 xN3 xN4 xN5 cI cI cB cI cI ++ stOf x00 x01 x02 x03 x04 x05 cI cI cB cI cI ++ stOf x10 x11 x12 x13 x14 x15 cI cI cB cI cI ++ stOf x20 x21 x22 x23 x24 x25 cI cI cB cI cI ++ stOf x30 x31 x32 x33 x34 x35 cI cI cB cI cI)[i]?) = zw_ws 44 (caAd [xA0, xA1, xA2, xA3, xA4, xA5, x00, x01, x02, x03, x04, x05, x10, x11, x12, x13, x14, x15, x20, x21, x22, x23, x24, x25, x30, x31, x32, x33, x34, x35, xN0, xN1, xN2, xN3, xN4, xN5, xW0, xW1, xW2, xW3, xT0, xT1, h0, xH]) (fun j => if j = 43 then .inl (cH, 4, .inr (.inr (.inr (.inr (va_up (va_up (va_up (va_up (fun _ => none) 0 (some x00)) 1 (some x10)) 2 (some x20)) 3 (some x30)))))) else zc shC (caAd [xA0, xA1, xA2, xA3, xA4, xA5, x00, x01, x02, x03, x04, x05, x10, x11, x12, x13, x14, x15, x20, x21, x22, x23, x24, x25, x30, x31, x32, x33, x34, x35, xN0, xN1, xN2, xN3, xN4, xN5, xW0, xW1, xW2, xW3, xT0, xT1, h0, xH], cI, cB, cH) zS0 j) := rfl
  have hD1 := hD.sub [1, 2, 3, 4, 5, 6, 20, 21, 22, 23, 24, 25, 26, 27, 28, 29, 30, 31, 32, 33, 34, 35, 36, 37, 38, 39, 40, 41, 42, 43, 14, 15, 16, 17, 18, 19, 7, 8, 9, 10, 11, 12, 0, 13] (by decide +kernel) e
  have hP1 := hP.sub [1, 2, 3, 4, 5, 6, 20, 21, 22, 23, 24, 25, 26, 27, 28, 29, 30, 31, 32, 33, 34, 35, 36, 37, 38, 39, 40, 41, 42, 43, 14, 15, 16, 17, 18, 19, 7, 8, 9, 10, 11, 12, 0, 13] e2
  refine ⟨fun k w hk => ?_, zw_Dc hD1⟩
  obtain ⟨h1, rfl⟩ := zw_key hk
  have h2 := hP1 k _ (zw_get h1 rfl)
  by_cases q : k = 43
  · subst q
    rw [if_pos rfl] at h2
    have h3 : H[xH]? = some (vp_cell cH (4, .inr (.inr (.inr (.inr (va_up (va_up (va_up (va_up (fun _ => none) 0 (some x00)) 1 (some x10)) 2 (some x20)) 3 (some x30))))))) := h2
    show H[xH]? = some (vp_cell cH (4, .inr (.inr (.inr (.inr (fun b => some (caAd [xA0, xA1, xA2, xA3, xA4, xA5, x00, x01, x02, x03, x04, x05, x10, x11, x12, x13, x14, x15, x20, x21, x22, x23, x24, x25, x30, x31, x32, x33, x34, x35, xN0, xN1, xN2, xN3, xN4, xN5, xW0, xW1, xW2, xW3, xT0, xT1, h0, xH] (6 * (b + 1)))))))))
    rw [h3]
    refine congrArg some (ref_cell (fun j hj => ?_))
    have : j = 0 ∨ j = 1 ∨ j = 2 ∨ j = 3 := by omega
    rcases this with rfl | rfl | rfl | rfl <;> rfl
  · rw [if_neg q] at h2
    exact h2
theorem m0_X3_init : ∀ w ∈ u_ws RX3 TX3 7, w ∈ wsX3_init := by decide +kernel
set_option maxHeartbeats 8000000 in
set_option maxRecDepth 100000 in
theorem c_X3_init (l : Launch) (D : va_G) (h0 : Nat) (sz : Nat) : Met l yX3_init wsX3_init ({ frames := 3, cells := 43, slots := 1414, locals := 52 }) (va_Pc [.ref h0] (fun U => U.heap.size = sz ∧ va_P D vwCl (caOb h0 .null .null .null .null .null) U.heap ∧ va_K D vwCl [] U ∧ (va_Nw (.methodLinkNest RX3 11 yX0_init RX3) U ∧ va_Nw (.methodLinkNest RX3 18 yX2_init RX3) U ∧ va_Nw (.methodLinkNest RX3 25 yX1_init RX3) U ∧ va_AO RX0 U) ∧ va_D (fun _ => True) (caOb h0 .null .null .null .null .null))) (va_Qv (fun _ : Unit => True) (fun _ t => ∃ (ad : Nat → Nat) (cI cB cH : ClassId), ad 42 = h0 ∧ va_P D vwCl (zw_ws 44 ad (zc shC (ad, cI, cB, cH) zS0)) t.heap ∧ va_K D vwCl [(cI, .int), (cB, .boolean), (cH, .object RX0)] t ∧ va_D (va_A (caOb h0 .null .null .null .null .null) sz) (zw_ws 44 ad (zc shC (ad, cI, cB, cH) zS0))) (va_A (caOb h0 .null .null .null .null .null) sz)) 43 1414 (va_A (caOb h0 .null .null .null .null .null) sz) := by
  refine Met.ofW (cc := cX3_init) (maxL := 2) (ret := none) (by decide) rfl ?_
  intro p e s m args below meth c s₁ B hml hv
  obtain ⟨rfl, hsz, hP, hK, ⟨hN11, hN18, hN25, hAO⟩, hD0⟩ := hv
  have hx := B.exec
  have hb := B.bytes
  have hr := B.returns
  have hts := atoms_spec (ws := wsX3_init) B.pre
  have hown : s.vm.findClass RX3 = some m.cls := findClass_of_methodNamed B.named
  have hlocks := B.notSynchronized
  have hin : meth.name = "<init>" := (name_of_methodNamed B.named B.method).1
  subst hsz
  have hD := hD0.self (sz := s.heap.size)
  generalize hAe : va_A (caOb h0 .null .null .null .null .null) s.heap.size = A at hD ⊢
  have hA : ∀ q : Nat, s.heap.size ≤ q → A q := fun q h => by rw [← hAe]; exact Or.inr h
  have hS : va_S A s.heap s.heap [] := va_S.rf
  have hl := lv_entry ([.ref h0]) (n := 2) (Nat.le_of_ble_eq_true rfl)
  rw [lg_entry_eq]
  generalize (lg_sl ([.ref h0]) ++ List.replicate (2 - (lg_sl ([.ref h0])).length) Slot.unset).toArray = ls at hl ⊢
  have hl : lv_has ls 2 [(0, .ref h0)] := hl
  have S : CallFix p m c cX3_init 2 s _ wsX3_init RX3 := ⟨hx, hb, hml, hown, hts⟩
  refine lv_aload_n hx hb dX3_init_0 rfl (lv_at hl 0 rfl) ?_
  refine W.objInit hx hb hown (hts (.methodLink RX3 3 objectInit) (by decide +kernel)) (hts (.instanceMethod objectInit) (by decide +kernel)) (hts (.code objectInit ⟨#[0xb1]⟩ 1 none) (by decide +kernel)) rfl (by rw [hml]; exact hl.1) rfl dX3_init_1 (Nat.le_of_ble_eq_true rfl) (Nat.le_of_ble_eq_true rfl) ?_
  refine W.eq (g2 := F0 m 4 ls []) rfl ?_
  refine lv_aload_n hx hb dX3_init_4 rfl (lv_at hl 0 rfl) ?_
  refine L_newState S hN11 hl.1 hK hP hD hS hA ⟨Nat.le_of_ble_eq_true rfl, Nat.le_of_ble_eq_true rfl⟩ ⟨Nat.le_of_ble_eq_true rfl, Nat.le_of_ble_eq_true rfl⟩ (Nat.le_of_ble_eq_true rfl) dX3_init_5 dX3_init_8 dX3_init_9 (fun xA0 xA1 xA2 xA3 xA4 xA5 cI d2 cB d4 d5 H locs hK1 hP hD hS => ?_)
  obtain rfl : cI = d2 := key_eq hK1 (i := 0) (j := 1) rfl rfl
  obtain rfl : cI = d4 := key_eq hK1 (i := 0) (j := 3) rfl rfl
  obtain rfl : cI = d5 := key_eq hK1 (i := 0) (j := 4) rfl rfl
  have hI : va_K D vwCl [(cI, .int), (cB, .boolean)] s := hK1.sub [0, 2] rfl
  have hP : va_P D vwCl (caOb h0 .null .null .null .null .null ++ stOf xA0 xA1 xA2 xA3 xA4 xA5 cI cI cB cI cI) H := hP
  have hD : va_D A (caOb h0 .null .null .null .null .null ++ stOf xA0 xA1 xA2 xA3 xA4 xA5 cI cI cB cI cI) := hD
  refine va_putF (D := D) (ci := 3) (v := .ref xA0) (C := RX3) (T := TX3) (N := 7) hx hb hts m0_X3_init tyX3 tyX3_ok nmX3 hown hI hP hD hS 0 rfl rfl 0 (by decide) (hts (.fieldLink RX3 12 RX3 (TX3 0).2.1 (TX3 0).2.2.1) (by decide +kernel)) (fun _ h9 => h9) rfl hin rfl (tyX3_ok 0 (by decide)) rfl rfl (Nat.le_of_ble_eq_true rfl) dX3_init_12 (fun H locs hP hD hS => ?_)
  have hP : va_P D vwCl (caOb h0 (.ref xA0) .null .null .null .null ++ stOf xA0 xA1 xA2 xA3 xA4 xA5 cI cI cB cI cI) H := hP
  have hD : va_D A (caOb h0 (.ref xA0) .null .null .null .null ++ stOf xA0 xA1 xA2 xA3 xA4 xA5 cI cI cB cI cI) := hD
  refine lv_aload_n hx hb dX3_init_15 rfl (lv_at hl 0 rfl) ?_
  refine L_newWords S hN18 hl.1 hI hP hD hS hA ⟨Nat.le_of_ble_eq_true rfl, Nat.le_of_ble_eq_true rfl⟩ ⟨Nat.le_of_ble_eq_true rfl, Nat.le_of_ble_eq_true rfl⟩ (Nat.le_of_ble_eq_true rfl) dX3_init_16 dX3_init_19 dX3_init_20 (fun xW0 xW1 xW2 xW3 d1 d2 d3 H locs hK1 hP hD hS => ?_)
  have hK1 := hI.app hK1
  obtain rfl : cI = d1 := key_eq hK1 (i := 0) (j := 2) rfl rfl
  obtain rfl : cI = d2 := key_eq hK1 (i := 0) (j := 3) rfl rfl
  obtain rfl : cI = d3 := key_eq hK1 (i := 0) (j := 4) rfl rfl
  clear hK1
  have hP : va_P D vwCl (caOb h0 (.ref xA0) .null .null .null .null ++ stOf xA0 xA1 xA2 xA3 xA4 xA5 cI cI cB cI cI ++ wdOf xW0 xW1 xW2 xW3 cI cI cI) H := hP
  have hD : va_D A (caOb h0 (.ref xA0) .null .null .null .null ++ stOf xA0 xA1 xA2 xA3 xA4 xA5 cI cI cB cI cI ++ wdOf xW0 xW1 xW2 xW3 cI cI cI) := hD
  refine va_putF (D := D) (ci := 3) (v := .ref xW0) (C := RX3) (T := TX3) (N := 7) hx hb hts m0_X3_init tyX3 tyX3_ok nmX3 hown hI hP hD hS 0 rfl rfl 1 (by decide) (hts (.fieldLink RX3 19 RX3 (TX3 1).2.1 (TX3 1).2.2.1) (by decide +kernel)) (fun _ h9 => h9) rfl hin rfl (tyX3_ok 1 (by decide)) rfl rfl (Nat.le_of_ble_eq_true rfl) dX3_init_23 (fun H locs hP hD hS => ?_)
  have hP : va_P D vwCl (caOb h0 (.ref xA0) (.ref xW0) .null .null .null ++ stOf xA0 xA1 xA2 xA3 xA4 xA5 cI cI cB cI cI ++ wdOf xW0 xW1 xW2 xW3 cI cI cI) H := hP
  have hD : va_D A (caOb h0 (.ref xA0) (.ref xW0) .null .null .null ++ stOf xA0 xA1 xA2 xA3 xA4 xA5 cI cI cB cI cI ++ wdOf xW0 xW1 xW2 xW3 cI cI cI) := hD
  refine lv_aload_n hx hb dX3_init_26 rfl (lv_at hl 0 rfl) ?_
  refine L_newText S hN25 hl.1 hI hP hD hS hA ⟨Nat.le_of_ble_eq_true rfl, Nat.le_of_ble_eq_true rfl⟩ ⟨Nat.le_of_ble_eq_true rfl, Nat.le_of_ble_eq_true rfl⟩ (Nat.le_of_ble_eq_true rfl) dX3_init_27 dX3_init_30 dX3_init_31 (fun xT0 xT1 d1 H locs hK1 hP hD hS => ?_)
  have hK1 := hI.app hK1
  obtain rfl : cI = d1 := key_eq hK1 (i := 0) (j := 2) rfl rfl
  clear hK1
  have hP : va_P D vwCl (caOb h0 (.ref xA0) (.ref xW0) .null .null .null ++ stOf xA0 xA1 xA2 xA3 xA4 xA5 cI cI cB cI cI ++ wdOf xW0 xW1 xW2 xW3 cI cI cI ++ txOf xT0 xT1 cI) H := hP
  have hD : va_D A (caOb h0 (.ref xA0) (.ref xW0) .null .null .null ++ stOf xA0 xA1 xA2 xA3 xA4 xA5 cI cI cB cI cI ++ wdOf xW0 xW1 xW2 xW3 cI cI cI ++ txOf xT0 xT1 cI) := hD
  refine va_putF (D := D) (ci := 3) (v := .ref xT0) (C := RX3) (T := TX3) (N := 7) hx hb hts m0_X3_init tyX3 tyX3_ok nmX3 hown hI hP hD hS 0 rfl rfl 2 (by decide) (hts (.fieldLink RX3 26 RX3 (TX3 2).2.1 (TX3 2).2.2.1) (by decide +kernel)) (fun _ h9 => h9) rfl hin rfl (tyX3_ok 2 (by decide)) rfl rfl (Nat.le_of_ble_eq_true rfl) dX3_init_34 (fun H locs hP hD hS => ?_)
  have hP : va_P D vwCl (caOb h0 (.ref xA0) (.ref xW0) (.ref xT0) .null .null ++ stOf xA0 xA1 xA2 xA3 xA4 xA5 cI cI cB cI cI ++ wdOf xW0 xW1 xW2 xW3 cI cI cI ++ txOf xT0 xT1 cI) H := hP
  have hD : va_D A (caOb h0 (.ref xA0) (.ref xW0) (.ref xT0) .null .null ++ stOf xA0 xA1 xA2 xA3 xA4 xA5 cI cI cB cI cI ++ wdOf xW0 xW1 xW2 xW3 cI cI cI ++ txOf xT0 xT1 cI) := hD
  refine lv_aload_n hx hb dX3_init_37 rfl (lv_at hl 0 rfl) ?_
  refine lv_iconst (v := nI 4) hx hb dX3_init_38 (by decide) ?_
  refine va_newq (C := RX0) (N' := 4) hx hb hown (hts (.classLink RX3 9 RX0) (by decide +kernel)) hAO hI hP hD hS hA (by decide) (by decide) (Nat.le_of_ble_eq_true rfl) (Nat.le_of_ble_eq_true rfl) (Nat.le_of_ble_eq_true rfl) dX3_init_39 (fun xH cH H hK3 hP hD hS => ?_)
  have hI2 := hI
  have hI : va_K D vwCl [(cI, .int), (cB, .boolean), (cH, .object RX0)] s := hK3
  have hP : va_P D vwCl (caOb h0 (.ref xA0) (.ref xW0) (.ref xT0) .null .null ++ stOf xA0 xA1 xA2 xA3 xA4 xA5 cI cI cB cI cI ++ wdOf xW0 xW1 xW2 xW3 cI cI cI ++ txOf xT0 xT1 cI ++ caHi xH cH (fun _ => none)) H := hP
  have hD : va_D A (caOb h0 (.ref xA0) (.ref xW0) (.ref xT0) .null .null ++ stOf xA0 xA1 xA2 xA3 xA4 xA5 cI cI cB cI cI ++ wdOf xW0 xW1 xW2 xW3 cI cI cI ++ txOf xT0 xT1 cI ++ caHi xH cH (fun _ => none)) := hD
  refine va_putF (D := D) (ci := 3) (v := .ref xH) (C := RX3) (T := TX3) (N := 7) hx hb hts m0_X3_init tyX3 tyX3_ok nmX3 hown hI hP hD hS 0 rfl rfl 3 (by decide) (hts (.fieldLink RX3 30 RX3 (TX3 3).2.1 (TX3 3).2.2.1) (by decide +kernel)) (fun _ h9 => h9) rfl hin rfl (tyX3_ok 3 (by decide)) rfl rfl (Nat.le_of_ble_eq_true rfl) dX3_init_42 (fun H locs hP hD hS => ?_)
  have hP : va_P D vwCl (caOb h0 (.ref xA0) (.ref xW0) (.ref xT0) (.ref xH) .null ++ stOf xA0 xA1 xA2 xA3 xA4 xA5 cI cI cB cI cI ++ wdOf xW0 xW1 xW2 xW3 cI cI cI ++ txOf xT0 xT1 cI ++ caHi xH cH (fun _ => none)) H := hP
  have hD : va_D A (caOb h0 (.ref xA0) (.ref xW0) (.ref xT0) (.ref xH) .null ++ stOf xA0 xA1 xA2 xA3 xA4 xA5 cI cI cB cI cI ++ wdOf xW0 xW1 xW2 xW3 cI cI cI ++ txOf xT0 xT1 cI ++ caHi xH cH (fun _ => none)) := hD
  refine lv_aload_n hx hb dX3_init_45 rfl (lv_at hl 0 rfl) ?_
  refine L_newState S hN11 hl.1 hI hP hD hS hA ⟨Nat.le_of_ble_eq_true rfl, Nat.le_of_ble_eq_true rfl⟩ ⟨Nat.le_of_ble_eq_true rfl, Nat.le_of_ble_eq_true rfl⟩ (Nat.le_of_ble_eq_true rfl) dX3_init_46 dX3_init_49 dX3_init_50 (fun xN0 xN1 xN2 xN3 xN4 xN5 d1 d2 d3 d4 d5 H locs hK1 hP hD hS => ?_)
  have hK1 := hI2.app hK1
  obtain rfl : cI = d1 := key_eq hK1 (i := 0) (j := 2) rfl rfl
  obtain rfl : cI = d2 := key_eq hK1 (i := 0) (j := 3) rfl rfl
  obtain rfl : cB = d3 := keyB_eq hK1 (i := 1) (j := 4) rfl rfl
  obtain rfl : cI = d4 := key_eq hK1 (i := 0) (j := 5) rfl rfl
  obtain rfl : cI = d5 := key_eq hK1 (i := 0) (j := 6) rfl rfl
  clear hK1
  have hP : va_P D vwCl (caOb h0 (.ref xA0) (.ref xW0) (.ref xT0) (.ref xH) .null ++ stOf xA0 xA1 xA2 xA3 xA4 xA5 cI cI cB cI cI ++ wdOf xW0 xW1 xW2 xW3 cI cI cI ++ txOf xT0 xT1 cI ++ caHi xH cH (fun _ => none) ++ stOf xN0 xN1 xN2 xN3 xN4 xN5 cI cI cB cI cI) H := hP
  have hD : va_D A (caOb h0 (.ref xA0) (.ref xW0) (.ref xT0) (.ref xH) .null ++ stOf xA0 xA1 xA2 xA3 xA4 xA5 cI cI cB cI cI ++ wdOf xW0 xW1 xW2 xW3 cI cI cI ++ txOf xT0 xT1 cI ++ caHi xH cH (fun _ => none) ++ stOf xN0 xN1 xN2 xN3 xN4 xN5 cI cI cB cI cI) := hD
  refine va_putF (D := D) (ci := 3) (v := .ref xN0) (C := RX3) (T := TX3) (N := 7) hx hb hts m0_X3_init tyX3 tyX3_ok nmX3 hown hI hP hD hS 0 rfl rfl 4 (by decide) (hts (.fieldLink RX3 34 RX3 (TX3 4).2.1 (TX3 4).2.2.1) (by decide +kernel)) (fun _ h9 => h9) rfl hin rfl (tyX3_ok 4 (by decide)) rfl rfl (Nat.le_of_ble_eq_true rfl) dX3_init_53 (fun H locs hP hD hS => ?_)
  have hP : va_P D vwCl (caOb h0 (.ref xA0) (.ref xW0) (.ref xT0) (.ref xH) (.ref xN0) ++ stOf xA0 xA1 xA2 xA3 xA4 xA5 cI cI cB cI cI ++ wdOf xW0 xW1 xW2 xW3 cI cI cI ++ txOf xT0 xT1 cI ++ caHi xH cH (fun _ => none) ++ stOf xN0 xN1 xN2 xN3 xN4 xN5 cI cI cB cI cI) H := hP
  have hD : va_D A (caOb h0 (.ref xA0) (.ref xW0) (.ref xT0) (.ref xH) (.ref xN0) ++ stOf xA0 xA1 xA2 xA3 xA4 xA5 cI cI cB cI cI ++ wdOf xW0 xW1 xW2 xW3 cI cI cI ++ txOf xT0 xT1 cI ++ caHi xH cH (fun _ => none) ++ stOf xN0 xN1 xN2 xN3 xN4 xN5 cI cI cB cI cI) := hD
  refine lv_iconst (v := nI 0) hx hb dX3_init_56 (by decide) ?_
  refine lv_istore_n (lv' := [(1, .int (nI 0)), (0, .ref h0)]) hx hb dX3_init_57 rfl hl (by decide) rfl (fun ls hl => ?_)
  refine lv_iload_n hx hb dX3_init_58 rfl (lv_at hl 0 rfl) ?_
  refine lv_iconst (v := nI 4) hx hb dX3_init_59 (by decide) ?_
  refine lv_icmp_ge hx hb dX3_init_60 (tgt := 82) (by decide) (fun h => absurd h (by decide)) (fun _ => ?_)
  refine lv_aload_n hx hb dX3_init_63 rfl (lv_at hl 1 rfl) ?_
  refine va_get (ci := 3) (C := RX3) (T := TX3) (N := 7) hx hb hts m0_X3_init hown hI hP 0 rfl rfl 3 (by decide) (hts (.fieldLink RX3 30 RX3 (TX3 3).2.1 (TX3 3).2.2.1) (by decide +kernel)) (fun _ h9 => h9) rfl dX3_init_64 ?_
  refine lv_iload_n hx hb dX3_init_67 rfl (lv_at hl 0 rfl) ?_
  refine L_newState S hN11 hl.1 hI hP hD hS hA ⟨Nat.le_of_ble_eq_true rfl, Nat.le_of_ble_eq_true rfl⟩ ⟨Nat.le_of_ble_eq_true rfl, Nat.le_of_ble_eq_true rfl⟩ (Nat.le_of_ble_eq_true rfl) dX3_init_68 dX3_init_71 dX3_init_72 (fun x00 x01 x02 x03 x04 x05 d1 d2 d3 d4 d5 H locs hK1 hP hD hS => ?_)
  have hK1 := hI2.app hK1
  obtain rfl : cI = d1 := key_eq hK1 (i := 0) (j := 2) rfl rfl
  obtain rfl : cI = d2 := key_eq hK1 (i := 0) (j := 3) rfl rfl
  obtain rfl : cB = d3 := keyB_eq hK1 (i := 1) (j := 4) rfl rfl
  obtain rfl : cI = d4 := key_eq hK1 (i := 0) (j := 5) rfl rfl
  obtain rfl : cI = d5 := key_eq hK1 (i := 0) (j := 6) rfl rfl
  clear hK1
  have hP : va_P D vwCl (caOb h0 (.ref xA0) (.ref xW0) (.ref xT0) (.ref xH) (.ref xN0) ++ stOf xA0 xA1 xA2 xA3 xA4 xA5 cI cI cB cI cI ++ wdOf xW0 xW1 xW2 xW3 cI cI cI ++ txOf xT0 xT1 cI ++ caHi xH cH (fun _ => none) ++ stOf xN0 xN1 xN2 xN3 xN4 xN5 cI cI cB cI cI ++ stOf x00 x01 x02 x03 x04 x05 cI cI cB cI cI) H := hP
  have hD : va_D A (caOb h0 (.ref xA0) (.ref xW0) (.ref xT0) (.ref xH) (.ref xN0) ++ stOf xA0 xA1 xA2 xA3 xA4 xA5 cI cI cB cI cI ++ wdOf xW0 xW1 xW2 xW3 cI cI cI ++ txOf xT0 xT1 cI ++ caHi xH cH (fun _ => none) ++ stOf xN0 xN1 xN2 xN3 xN4 xN5 cI cI cB cI cI ++ stOf x00 x01 x02 x03 x04 x05 cI cI cB cI cI) := hD
  refine va_astq (r := (RX0, TX0, 11)) hx hb hI hP hD hS 13 2 20 0 rfl rfl rfl rfl (pk_in 0 4 (by omega)) dX3_init_75 (fun H locs hP hD hS => ?_)
  rw [pk_cl (x := nI 0) 0] at hP hD
  have hP : va_P D vwCl (caOb h0 (.ref xA0) (.ref xW0) (.ref xT0) (.ref xH) (.ref xN0) ++ stOf xA0 xA1 xA2 xA3 xA4 xA5 cI cI cB cI cI ++ wdOf xW0 xW1 xW2 xW3 cI cI cI ++ txOf xT0 xT1 cI ++ caHi xH cH (va_up (fun _ => none) 0 (some x00)) ++ stOf xN0 xN1 xN2 xN3 xN4 xN5 cI cI cB cI cI ++ stOf x00 x01 x02 x03 x04 x05 cI cI cB cI cI) H := hP
  have hD : va_D A (caOb h0 (.ref xA0) (.ref xW0) (.ref xT0) (.ref xH) (.ref xN0) ++ stOf xA0 xA1 xA2 xA3 xA4 xA5 cI cI cB cI cI ++ wdOf xW0 xW1 xW2 xW3 cI cI cI ++ txOf xT0 xT1 cI ++ caHi xH cH (va_up (fun _ => none) 0 (some x00)) ++ stOf xN0 xN1 xN2 xN3 xN4 xN5 cI cI cB cI cI ++ stOf x00 x01 x02 x03 x04 x05 cI cI cB cI cI) := hD
  refine lv_iinc hx hb dX3_init_76 hl (k := 0) (v := nI 1) (lv' := [(1, .int (nI 1)), (0, .ref h0)]) rfl (by decide) (by decide) rfl (fun ls hl => ?_)
  refine lv_goto hx hb dX3_init_79 (tgt := 58) (by decide) ?_
  refine lv_iload_n hx hb dX3_init_58 rfl (lv_at hl 0 rfl) ?_
  refine lv_iconst (v := nI 4) hx hb dX3_init_59 (by decide) ?_
  refine lv_icmp_ge hx hb dX3_init_60 (tgt := 82) (by decide) (fun h => absurd h (by decide)) (fun _ => ?_)
  refine lv_aload_n hx hb dX3_init_63 rfl (lv_at hl 1 rfl) ?_
  refine va_get (ci := 3) (C := RX3) (T := TX3) (N := 7) hx hb hts m0_X3_init hown hI hP 0 rfl rfl 3 (by decide) (hts (.fieldLink RX3 30 RX3 (TX3 3).2.1 (TX3 3).2.2.1) (by decide +kernel)) (fun _ h9 => h9) rfl dX3_init_64 ?_
  refine lv_iload_n hx hb dX3_init_67 rfl (lv_at hl 0 rfl) ?_
  refine L_newState S hN11 hl.1 hI hP hD hS hA ⟨Nat.le_of_ble_eq_true rfl, Nat.le_of_ble_eq_true rfl⟩ ⟨Nat.le_of_ble_eq_true rfl, Nat.le_of_ble_eq_true rfl⟩ (Nat.le_of_ble_eq_true rfl) dX3_init_68 dX3_init_71 dX3_init_72 (fun x10 x11 x12 x13 x14 x15 d1 d2 d3 d4 d5 H locs hK1 hP hD hS => ?_)
  have hK1 := hI2.app hK1
  obtain rfl : cI = d1 := key_eq hK1 (i := 0) (j := 2) rfl rfl
  obtain rfl : cI = d2 := key_eq hK1 (i := 0) (j := 3) rfl rfl
  obtain rfl : cB = d3 := keyB_eq hK1 (i := 1) (j := 4) rfl rfl
  obtain rfl : cI = d4 := key_eq hK1 (i := 0) (j := 5) rfl rfl
  obtain rfl : cI = d5 := key_eq hK1 (i := 0) (j := 6) rfl rfl
  clear hK1
  have hP : va_P D vwCl (caOb h0 (.ref xA0) (.ref xW0) (.ref xT0) (.ref xH) (.ref xN0) ++ stOf xA0 xA1 xA2 xA3 xA4 xA5 cI cI cB cI cI ++ wdOf xW0 xW1 xW2 xW3 cI cI cI ++ txOf xT0 xT1 cI ++ caHi xH cH (va_up (fun _ => none) 0 (some x00)) ++ stOf xN0 xN1 xN2 xN3 xN4 xN5 cI cI cB cI cI ++ stOf x00 x01 x02 x03 x04 x05 cI cI cB cI cI ++ stOf x10 x11 x12 x13 x14 x15 cI cI cB cI cI) H := hP
  have hD : va_D A (caOb h0 (.ref xA0) (.ref xW0) (.ref xT0) (.ref xH) (.ref xN0) ++ stOf xA0 xA1 xA2 xA3 xA4 xA5 cI cI cB cI cI ++ wdOf xW0 xW1 xW2 xW3 cI cI cI ++ txOf xT0 xT1 cI ++ caHi xH cH (va_up (fun _ => none) 0 (some x00)) ++ stOf xN0 xN1 xN2 xN3 xN4 xN5 cI cI cB cI cI ++ stOf x00 x01 x02 x03 x04 x05 cI cI cB cI cI ++ stOf x10 x11 x12 x13 x14 x15 cI cI cB cI cI) := hD
  refine va_astq (r := (RX0, TX0, 11)) hx hb hI hP hD hS 13 2 26 0 rfl rfl rfl rfl (pk_in 1 4 (by omega)) dX3_init_75 (fun H locs hP hD hS => ?_)
  rw [pk_cl (x := nI 1) 1] at hP hD
  have hP : va_P D vwCl (caOb h0 (.ref xA0) (.ref xW0) (.ref xT0) (.ref xH) (.ref xN0) ++ stOf xA0 xA1 xA2 xA3 xA4 xA5 cI cI cB cI cI ++ wdOf xW0 xW1 xW2 xW3 cI cI cI ++ txOf xT0 xT1 cI ++ caHi xH cH (va_up (va_up (fun _ => none) 0 (some x00)) 1 (some x10)) ++ stOf xN0 xN1 xN2 xN3 xN4 xN5 cI cI cB cI cI ++ stOf x00 x01 x02 x03 x04 x05 cI cI cB cI cI ++ stOf x10 x11 x12 x13 x14 x15 cI cI cB cI cI) H := hP
  have hD : va_D A (caOb h0 (.ref xA0) (.ref xW0) (.ref xT0) (.ref xH) (.ref xN0) ++ stOf xA0 xA1 xA2 xA3 xA4 xA5 cI cI cB cI cI ++ wdOf xW0 xW1 xW2 xW3 cI cI cI ++ txOf xT0 xT1 cI ++ caHi xH cH (va_up (va_up (fun _ => none) 0 (some x00)) 1 (some x10)) ++ stOf xN0 xN1 xN2 xN3 xN4 xN5 cI cI cB cI cI ++ stOf x00 x01 x02 x03 x04 x05 cI cI cB cI cI ++ stOf x10 x11 x12 x13 x14 x15 cI cI cB cI cI) := hD
  refine lv_iinc hx hb dX3_init_76 hl (k := 0) (v := nI 2) (lv' := [(1, .int (nI 2)), (0, .ref h0)]) rfl (by decide) (by decide) rfl (fun ls hl => ?_)
  refine lv_goto hx hb dX3_init_79 (tgt := 58) (by decide) ?_
  refine lv_iload_n hx hb dX3_init_58 rfl (lv_at hl 0 rfl) ?_
  refine lv_iconst (v := nI 4) hx hb dX3_init_59 (by decide) ?_
  refine lv_icmp_ge hx hb dX3_init_60 (tgt := 82) (by decide) (fun h => absurd h (by decide)) (fun _ => ?_)
  refine lv_aload_n hx hb dX3_init_63 rfl (lv_at hl 1 rfl) ?_
  refine va_get (ci := 3) (C := RX3) (T := TX3) (N := 7) hx hb hts m0_X3_init hown hI hP 0 rfl rfl 3 (by decide) (hts (.fieldLink RX3 30 RX3 (TX3 3).2.1 (TX3 3).2.2.1) (by decide +kernel)) (fun _ h9 => h9) rfl dX3_init_64 ?_
  refine lv_iload_n hx hb dX3_init_67 rfl (lv_at hl 0 rfl) ?_
  refine L_newState S hN11 hl.1 hI hP hD hS hA ⟨Nat.le_of_ble_eq_true rfl, Nat.le_of_ble_eq_true rfl⟩ ⟨Nat.le_of_ble_eq_true rfl, Nat.le_of_ble_eq_true rfl⟩ (Nat.le_of_ble_eq_true rfl) dX3_init_68 dX3_init_71 dX3_init_72 (fun x20 x21 x22 x23 x24 x25 d1 d2 d3 d4 d5 H locs hK1 hP hD hS => ?_)
  have hK1 := hI2.app hK1
  obtain rfl : cI = d1 := key_eq hK1 (i := 0) (j := 2) rfl rfl
  obtain rfl : cI = d2 := key_eq hK1 (i := 0) (j := 3) rfl rfl
  obtain rfl : cB = d3 := keyB_eq hK1 (i := 1) (j := 4) rfl rfl
  obtain rfl : cI = d4 := key_eq hK1 (i := 0) (j := 5) rfl rfl
  obtain rfl : cI = d5 := key_eq hK1 (i := 0) (j := 6) rfl rfl
  clear hK1
  have hP : va_P D vwCl (caOb h0 (.ref xA0) (.ref xW0) (.ref xT0) (.ref xH) (.ref xN0) ++ stOf xA0 xA1 xA2 xA3 xA4 xA5 cI cI cB cI cI ++ wdOf xW0 xW1 xW2 xW3 cI cI cI ++ txOf xT0 xT1 cI ++ caHi xH cH (va_up (va_up (fun _ => none) 0 (some x00)) 1 (some x10)) ++ stOf xN0 xN1 xN2 xN3 xN4 xN5 cI cI cB cI cI ++ stOf x00 x01 x02 x03 x04 x05 cI cI cB cI cI ++ stOf x10 x11 x12 x13 x14 x15 cI cI cB cI cI ++ stOf x20 x21 x22 x23 x24 x25 cI cI cB cI cI) H := hP
  have hD : va_D A (caOb h0 (.ref xA0) (.ref xW0) (.ref xT0) (.ref xH) (.ref xN0) ++ stOf xA0 xA1 xA2 xA3 xA4 xA5 cI cI cB cI cI ++ wdOf xW0 xW1 xW2 xW3 cI cI cI ++ txOf xT0 xT1 cI ++ caHi xH cH (va_up (va_up (fun _ => none) 0 (some x00)) 1 (some x10)) ++ stOf xN0 xN1 xN2 xN3 xN4 xN5 cI cI cB cI cI ++ stOf x00 x01 x02 x03 x04 x05 cI cI cB cI cI ++ stOf x10 x11 x12 x13 x14 x15 cI cI cB cI cI ++ stOf x20 x21 x22 x23 x24 x25 cI cI cB cI cI) := hD
  refine va_astq (r := (RX0, TX0, 11)) hx hb hI hP hD hS 13 2 32 0 rfl rfl rfl rfl (pk_in 2 4 (by omega)) dX3_init_75 (fun H locs hP hD hS => ?_)
  rw [pk_cl (x := nI 2) 2] at hP hD
  have hP : va_P D vwCl (caOb h0 (.ref xA0) (.ref xW0) (.ref xT0) (.ref xH) (.ref xN0) ++ stOf xA0 xA1 xA2 xA3 xA4 xA5 cI cI cB cI cI ++ wdOf xW0 xW1 xW2 xW3 cI cI cI ++ txOf xT0 xT1 cI ++ caHi xH cH (va_up (va_up (va_up (fun _ => none) 0 (some x00)) 1 (some x10)) 2 (some x20)) ++ stOf xN0 xN1 xN2 xN3 xN4 xN5 cI cI cB cI cI ++ stOf x00 x01 x02 x03 x04 x05 cI cI cB cI cI ++ stOf x10 x11 x12 x13 x14 x15 cI cI cB cI cI ++ stOf x20 x21 x22 x23 x24 x25 cI cI cB cI cI) H := hP
  have hD : va_D A (caOb h0 (.ref xA0) (.ref xW0) (.ref xT0) (.ref xH) (.ref xN0) ++ stOf xA0 xA1 xA2 xA3 xA4 xA5 cI cI cB cI cI ++ wdOf xW0 xW1 xW2 xW3 cI cI cI ++ txOf xT0 xT1 cI ++ caHi xH cH (va_up (va_up (va_up (fun _ => none) 0 (some x00)) 1 (some x10)) 2 (some x20)) ++ stOf xN0 xN1 xN2 xN3 xN4 xN5 cI cI cB cI cI ++ stOf x00 x01 x02 x03 x04 x05 cI cI cB cI cI ++ stOf x10 x11 x12 x13 x14 x15 cI cI cB cI cI ++ stOf x20 x21 x22 x23 x24 x25 cI cI cB cI cI) := hD
  refine lv_iinc hx hb dX3_init_76 hl (k := 0) (v := nI 3) (lv' := [(1, .int (nI 3)), (0, .ref h0)]) rfl (by decide) (by decide) rfl (fun ls hl => ?_)
  refine lv_goto hx hb dX3_init_79 (tgt := 58) (by decide) ?_
  refine lv_iload_n hx hb dX3_init_58 rfl (lv_at hl 0 rfl) ?_
  refine lv_iconst (v := nI 4) hx hb dX3_init_59 (by decide) ?_
  refine lv_icmp_ge hx hb dX3_init_60 (tgt := 82) (by decide) (fun h => absurd h (by decide)) (fun _ => ?_)
  refine lv_aload_n hx hb dX3_init_63 rfl (lv_at hl 1 rfl) ?_
  refine va_get (ci := 3) (C := RX3) (T := TX3) (N := 7) hx hb hts m0_X3_init hown hI hP 0 rfl rfl 3 (by decide) (hts (.fieldLink RX3 30 RX3 (TX3 3).2.1 (TX3 3).2.2.1) (by decide +kernel)) (fun _ h9 => h9) rfl dX3_init_64 ?_
  refine lv_iload_n hx hb dX3_init_67 rfl (lv_at hl 0 rfl) ?_
  refine L_newState S hN11 hl.1 hI hP hD hS hA ⟨Nat.le_of_ble_eq_true rfl, Nat.le_of_ble_eq_true rfl⟩ ⟨Nat.le_of_ble_eq_true rfl, Nat.le_of_ble_eq_true rfl⟩ (Nat.le_of_ble_eq_true rfl) dX3_init_68 dX3_init_71 dX3_init_72 (fun x30 x31 x32 x33 x34 x35 d1 d2 d3 d4 d5 H locs hK1 hP hD hS => ?_)
  have hK1 := hI2.app hK1
  obtain rfl : cI = d1 := key_eq hK1 (i := 0) (j := 2) rfl rfl
  obtain rfl : cI = d2 := key_eq hK1 (i := 0) (j := 3) rfl rfl
  obtain rfl : cB = d3 := keyB_eq hK1 (i := 1) (j := 4) rfl rfl
  obtain rfl : cI = d4 := key_eq hK1 (i := 0) (j := 5) rfl rfl
  obtain rfl : cI = d5 := key_eq hK1 (i := 0) (j := 6) rfl rfl
  clear hK1
  have hP : va_P D vwCl (caOb h0 (.ref xA0) (.ref xW0) (.ref xT0) (.ref xH) (.ref xN0) ++ stOf xA0 xA1 xA2 xA3 xA4 xA5 cI cI cB cI cI ++ wdOf xW0 xW1 xW2 xW3 cI cI cI ++ txOf xT0 xT1 cI ++ caHi xH cH (va_up (va_up (va_up (fun _ => none) 0 (some x00)) 1 (some x10)) 2 (some x20)) ++ stOf xN0 xN1 xN2 xN3 xN4 xN5 cI cI cB cI cI ++ stOf x00 x01 x02 x03 x04 x05 cI cI cB cI cI ++ stOf x10 x11 x12 x13 x14 x15 cI cI cB cI cI ++ stOf x20 x21 x22 x23 x24 x25 cI cI cB cI cI ++ stOf x30 x31 x32 x33 x34 x35 cI cI cB cI cI) H := hP
  have hD : va_D A (caOb h0 (.ref xA0) (.ref xW0) (.ref xT0) (.ref xH) (.ref xN0) ++ stOf xA0 xA1 xA2 xA3 xA4 xA5 cI cI cB cI cI ++ wdOf xW0 xW1 xW2 xW3 cI cI cI ++ txOf xT0 xT1 cI ++ caHi xH cH (va_up (va_up (va_up (fun _ => none) 0 (some x00)) 1 (some x10)) 2 (some x20)) ++ stOf xN0 xN1 xN2 xN3 xN4 xN5 cI cI cB cI cI ++ stOf x00 x01 x02 x03 x04 x05 cI cI cB cI cI ++ stOf x10 x11 x12 x13 x14 x15 cI cI cB cI cI ++ stOf x20 x21 x22 x23 x24 x25 cI cI cB cI cI ++ stOf x30 x31 x32 x33 x34 x35 cI cI cB cI cI) := hD
  refine va_astq (r := (RX0, TX0, 11)) hx hb hI hP hD hS 13 2 38 0 rfl rfl rfl rfl (pk_in 3 4 (by omega)) dX3_init_75 (fun H locs hP hD hS => ?_)
  rw [pk_cl (x := nI 3) 3] at hP hD
  have hP : va_P D vwCl (caOb h0 (.ref xA0) (.ref xW0) (.ref xT0) (.ref xH) (.ref xN0) ++ stOf xA0 xA1 xA2 xA3 xA4 xA5 cI cI cB cI cI ++ wdOf xW0 xW1 xW2 xW3 cI cI cI ++ txOf xT0 xT1 cI ++ caHi xH cH (va_up (va_up (va_up (va_up (fun _ => none) 0 (some x00)) 1 (some x10)) 2 (some x20)) 3 (some x30)) ++ stOf xN0 xN1 xN2 xN3 xN4 xN5 cI cI cB cI cI ++ stOf x00 x01 x02 x03 x04 x05 cI cI cB cI cI ++ stOf x10 x11 x12 x13 x14 x15 cI cI cB cI cI ++ stOf x20 x21 x22 x23 x24 x25 cI cI cB cI cI ++ stOf x30 x31 x32 x33 x34 x35 cI cI cB cI cI) H := hP
  have hD : va_D A (caOb h0 (.ref xA0) (.ref xW0) (.ref xT0) (.ref xH) (.ref xN0) ++ stOf xA0 xA1 xA2 xA3 xA4 xA5 cI cI cB cI cI ++ wdOf xW0 xW1 xW2 xW3 cI cI cI ++ txOf xT0 xT1 cI ++ caHi xH cH (va_up (va_up (va_up (va_up (fun _ => none) 0 (some x00)) 1 (some x10)) 2 (some x20)) 3 (some x30)) ++ stOf xN0 xN1 xN2 xN3 xN4 xN5 cI cI cB cI cI ++ stOf x00 x01 x02 x03 x04 x05 cI cI cB cI cI ++ stOf x10 x11 x12 x13 x14 x15 cI cI cB cI cI ++ stOf x20 x21 x22 x23 x24 x25 cI cI cB cI cI ++ stOf x30 x31 x32 x33 x34 x35 cI cI cB cI cI) := hD
  refine lv_iinc hx hb dX3_init_76 hl (k := 0) (v := nI 4) (lv' := [(1, .int (nI 4)), (0, .ref h0)]) rfl (by decide) (by decide) rfl (fun ls hl => ?_)
  refine lv_goto hx hb dX3_init_79 (tgt := 58) (by decide) ?_
  refine lv_iload_n hx hb dX3_init_58 rfl (lv_at hl 0 rfl) ?_
  refine lv_iconst (v := nI 4) hx hb dX3_init_59 (by decide) ?_
  refine lv_icmp_ge hx hb dX3_init_60 (tgt := 82) (by decide) (fun _ => ?_) (fun h => absurd (by decide) h)
  obtain ⟨g1, g2⟩ := ca_world hP hD
  exact W.vret hx hb hr (fun t ht hW => ⟨⟨(), rfl, trivial, caAd [xA0, xA1, xA2, xA3, xA4, xA5, x00, x01, x02, x03, x04, x05, x10, x11, x12, x13, x14, x15, x20, x21, x22, x23, x24, x25, x30, x31, x32, x33, x34, x35, xN0, xN1, xN2, xN3, xN4, xN5, xW0, xW1, xW2, xW3, xT0, xT1, h0, xH], cI, cB, cH, rfl, by rw [ht]; exact g1, va_K.moved hW.alike hI, g2⟩, hS.F ht⟩) hS.2.2 dX3_init_82
