/-! SoldLetters$State.cellsWith: a walk -/
theorem hd_X0_cellsWith : yX0_cellsWith.cls = RX0 ∧ yX0_cellsWith.cls ≠ "java/lang/invoke/MethodHandle" ∧ yX0_cellsWith.cls ≠ "java/lang/invoke/VarHandle" ∧ (parseMethodDescriptor yX0_cellsWith.desc).map (fun d => d.parameters.length) = some 1 := by decide +kernel
set_option maxHeartbeats 4000000 in
set_option maxRecDepth 100000 in
theorem tl_X0_cellsWith_4 {l : Launch} {D : va_G} {X : zE} {p : Program} {e : Env} {s : State} {m : MethodId} {args : Array Value} {below : List Frame} {meth : Method} {c : Code} (S : zS p m meth c cX0_cellsWith 4 (some .int) s args wsX0_cellsWith RX0 D 44 X) {z0 : zV} {r : Int32} : ∀ (n_ : Nat), ∀ (x1 : Int32) (x2 : Int32) (x3 : Int32), l_X0_cellsWith_4 z0 n_ x1 x2 x3 = some r → Zj false D 44 X p l e (zrm 2 42) s m args below meth c (MQ below (zQr (some (.int r))) args s 0 0 (fun _ => False)) 4 4 [(0, .ref (X.1 0)), (1, .int x1), (2, .int x2), (3, .int x3)] [] (zc shC X z0) := by
  intro n_
  induction n_ with
  | zero =>
    intro x1 x2 x3 h
    cases h
  | succ n_ ih =>
    intro x1 x2 x3 h
    rw [l_X0_cellsWith_4] at h
    refine z_iload_n S 3 dX0_cellsWith_4 rfl rfl ?_
    refine z_bipush (v := (nI 49)) S dX0_cellsWith_5 (by decide) ?_
    refine z_icmp_ge S (tgt := 28) dX0_cellsWith_7 (by decide) h (fun h => ?_) (fun h => ?_)
    · refine z_iload_n S 2 dX0_cellsWith_28 rfl rfl ?_
      exact z_iret_r S dX0_cellsWith_29 h
    · refine z_aload_n S 0 dX0_cellsWith_10 rfl rfl ?_
      refine z_iload_n S 3 dX0_cellsWith_11 rfl rfl ?_
      obtain ⟨v_12, hv_12, h⟩ := ob_some h
      refine z_callV_r (As := [.int x3]) S (c_X0_numberAt l D X _ _ S.2.2.1 hv_12) (cwV 1 S.1.2.2.2.2 gX0_cellsWith_X0_numberAt rfl rfl rfl hd_X0_numberAt ⟨Nat.le_of_ble_eq_true rfl, Nat.le_of_ble_eq_true rfl⟩) (Nat.le_of_ble_eq_true rfl) (cC_0 X z0) rfl rfl rfl (Nat.le_of_ble_eq_true rfl) rfl dX0_cellsWith_12 ?_
      refine z_iload_n S 1 dX0_cellsWith_15 rfl rfl ?_
      refine z_icmp_ne S (tgt := 22) dX0_cellsWith_16 (by decide) h (fun h => ?_) (fun h => ?_)
      · refine z_iinc S 3 [(3, .int (x3 + nI 1)), (0, .ref (X.1 0)), (1, .int x1), (2, .int x2)] dX0_cellsWith_22 rfl rfl (Nat.le_of_ble_eq_true rfl) rfl ?_
        refine z_goto S (tgt := 4) dX0_cellsWith_25 (by decide) ?_
        exact z_lv [1, 2, 3, 0] rfl (ih _ _ _ h)
      · refine z_iinc S 2 [(2, .int (x2 + nI 1)), (0, .ref (X.1 0)), (1, .int x1), (3, .int x3)] dX0_cellsWith_19 rfl rfl (Nat.le_of_ble_eq_true rfl) rfl ?_
        refine z_iinc S 3 [(3, .int (x3 + nI 1)), (2, .int (x2 + nI 1)), (0, .ref (X.1 0)), (1, .int x1)] dX0_cellsWith_22 rfl rfl (Nat.le_of_ble_eq_true rfl) rfl ?_
        refine z_goto S (tgt := 4) dX0_cellsWith_25 (by decide) ?_
        exact z_lv [2, 3, 1, 0] rfl (ih _ _ _ h)
set_option maxHeartbeats 4000000 in
set_option maxRecDepth 100000 in
theorem c_X0_cellsWith (l : Launch) (D : va_G) (X : zE) (z0 : zV) (a0 : Int32) (hinj : zw_inj 44 X.1) {r : Int32} (h : f_X0_cellsWith z0 a0 = some r) : zMr l yX0_cellsWith wsX0_cellsWith (zrm 2 42) D 44 X (zc shC X z0) [.ref (X.1 0), .int a0] (some (.int r)) := by
  rw [f_X0_cellsWith] at h
  refine z_start_r (cc := cX0_cellsWith) (maxL := 4) (ret := (some .int)) (by decide) rfl (Nat.le_of_ble_eq_true rfl) hinj ?_
  intro p e s m below meth c S
  refine z_iconst (v := (nI 0)) S dX0_cellsWith_0 (by decide) ?_
  refine z_istore_n S [(2, .int (nI 0)), (0, .ref (X.1 0)), (1, .int a0)] dX0_cellsWith_1 rfl (Nat.le_of_ble_eq_true rfl) rfl ?_
  refine z_iconst (v := (nI 0)) S dX0_cellsWith_2 (by decide) ?_
  refine z_istore_n S [(3, .int (nI 0)), (2, .int (nI 0)), (0, .ref (X.1 0)), (1, .int a0)] dX0_cellsWith_3 rfl (Nat.le_of_ble_eq_true rfl) rfl ?_
  exact z_lv [2, 3, 1, 0] rfl (tl_X0_cellsWith_4 S _ _ _ _ h)
/-! SoldLetters$State.priceOf: a walk -/
theorem hd_X0_priceOf : yX0_priceOf.cls = RX0 ∧ yX0_priceOf.cls ≠ "java/lang/invoke/MethodHandle" ∧ yX0_priceOf.cls ≠ "java/lang/invoke/VarHandle" ∧ (parseMethodDescriptor yX0_priceOf.desc).map (fun d => d.parameters.length) = some 1 := by decide +kernel
theorem m0_X0_priceOf : Cond.methodLink RX0 67 Lib.Math.min.name ∈ wsX0_priceOf := by decide +kernel
theorem m1_X0_priceOf : Cond.static Lib.Math.min.name ∈ wsX0_priceOf := by decide +kernel
theorem m2_X0_priceOf : Cond.initialized "java/lang/Math" ∈ wsX0_priceOf := by decide +kernel
theorem m3_X0_priceOf : Cond.code Lib.Math.min.name Lib.Math.min.code 2 (some .int) ∈ wsX0_priceOf := by decide +kernel
set_option maxHeartbeats 4000000 in
set_option maxRecDepth 100000 in
theorem c_X0_priceOf (l : Launch) (D : va_G) (X : zE) (z0 : zV) (a0 : Int32) (hinj : zw_inj 44 X.1) {r : Int32} (h : f_X0_priceOf z0 a0 = some r) : zMr l yX0_priceOf wsX0_priceOf (zrm 3 65) D 44 X (zc shC X z0) [.ref (X.1 0), .int a0] (some (.int r)) := by
  rw [f_X0_priceOf] at h
  refine z_start_r (cc := cX0_priceOf) (maxL := 2) (ret := (some .int)) (by decide) rfl (Nat.le_of_ble_eq_true rfl) hinj ?_
  intro p e s m below meth c S
  refine z_bipush (v := (nI 9)) S dX0_priceOf_0 (by decide) ?_
  refine z_iconst (v := (nI 1)) S dX0_priceOf_2 (by decide) ?_
  refine z_aload_n S 0 dX0_priceOf_3 rfl rfl ?_
  refine z_iload_n S 1 dX0_priceOf_4 rfl rfl ?_
  obtain ⟨v_5, hv_5, h⟩ := ob_some h
  refine z_callV_r (As := [.int a0]) S (c_X0_cellsWith l D X _ _ S.2.2.1 hv_5) (cwV 1 S.1.2.2.2.2 gX0_priceOf_X0_cellsWith rfl rfl rfl hd_X0_cellsWith ⟨Nat.le_of_ble_eq_true rfl, Nat.le_of_ble_eq_true rfl⟩) (Nat.le_of_ble_eq_true rfl) (cC_0 X z0) rfl rfl rfl (Nat.le_of_ble_eq_true rfl) rfl dX0_priceOf_5 ?_
  refine z_iadd S dX0_priceOf_8 ?_
  refine z_mmin S rfl m0_X0_priceOf m1_X0_priceOf m2_X0_priceOf m3_X0_priceOf (Nat.le_of_ble_eq_true rfl) (Nat.le_of_ble_eq_true rfl) dX0_priceOf_9 ?_
  exact z_iret_r S dX0_priceOf_12 h
/-! SoldLetters$State.letterOf: a walk -/
theorem hd_X0_letterOf : yX0_letterOf.cls = RX0 ∧ yX0_letterOf.cls ≠ "java/lang/invoke/MethodHandle" ∧ yX0_letterOf.cls ≠ "java/lang/invoke/VarHandle" ∧ (parseMethodDescriptor yX0_letterOf.desc).map (fun d => d.parameters.length) = some 1 := by decide +kernel
set_option maxHeartbeats 4000000 in
set_option maxRecDepth 100000 in
theorem tl_X0_letterOf_3 {l : Launch} {D : va_G} {X : zE} {p : Program} {e : Env} {s : State} {m : MethodId} {args : Array Value} {below : List Frame} {meth : Method} {c : Code} (S : zS p m meth c cX0_letterOf 3 (some .int) s args wsX0_letterOf RX0 D 44 X) {z0 : zV} {r : Int32} : ∀ (n_ : Nat), ∀ (x1 : Int32) (x2 : Int32), l_X0_letterOf_3 z0 n_ x1 x2 = some r → Zj false D 44 X p l e (zrm 1 21) s m args below meth c (MQ below (zQr (some (.int r))) args s 0 0 (fun _ => False)) 3 3 [(0, .ref (X.1 0)), (1, .int x1), (2, .int x2)] [] (zc shC X z0) := by
  intro n_
  induction n_ with
  | zero =>
    intro x1 x2 h
    cases h
  | succ n_ ih =>
    intro x1 x2 h
    rw [l_X0_letterOf_3] at h
    refine z_iload_n S 2 dX0_letterOf_3 rfl rfl ?_
    refine z_bipush (v := (nI 122)) S dX0_letterOf_4 (by decide) ?_
    refine z_icmp_gt S (tgt := 26) dX0_letterOf_6 (by decide) h (fun h => ?_) (fun h => ?_)
    · refine z_iconst (v := (nI 0)) S dX0_letterOf_26 (by decide) ?_
      exact z_iret_r S dX0_letterOf_27 h
    · refine z_aload_n S 0 dX0_letterOf_9 rfl rfl ?_
      refine z_iload_n S 2 dX0_letterOf_10 rfl rfl ?_
      obtain ⟨v_11, hv_11, h⟩ := ob_some h
      refine z_callV_r (As := [.int x2]) S (c_X0_numberOf l D X _ _ S.2.2.1 hv_11) (cwV 1 S.1.2.2.2.2 gX0_letterOf_X0_numberOf rfl rfl rfl hd_X0_numberOf ⟨Nat.le_of_ble_eq_true rfl, Nat.le_of_ble_eq_true rfl⟩) (Nat.le_of_ble_eq_true rfl) (cC_0 X z0) rfl rfl rfl (Nat.le_of_ble_eq_true rfl) rfl dX0_letterOf_11 ?_
      refine z_iload_n S 1 dX0_letterOf_14 rfl rfl ?_
      refine z_icmp_ne S (tgt := 20) dX0_letterOf_15 (by decide) h (fun h => ?_) (fun h => ?_)
      · refine z_iinc S 2 [(2, .int (x2 + nI 1)), (0, .ref (X.1 0)), (1, .int x1)] dX0_letterOf_20 rfl rfl (Nat.le_of_ble_eq_true rfl) rfl ?_
        refine z_goto S (tgt := 3) dX0_letterOf_23 (by decide) ?_
        exact z_lv [1, 2, 0] rfl (ih _ _ h)
      · refine z_iload_n S 2 dX0_letterOf_18 rfl rfl ?_
        exact z_iret_r S dX0_letterOf_19 h
set_option maxHeartbeats 4000000 in
set_option maxRecDepth 100000 in
theorem c_X0_letterOf (l : Launch) (D : va_G) (X : zE) (z0 : zV) (a0 : Int32) (hinj : zw_inj 44 X.1) {r : Int32} (h : f_X0_letterOf z0 a0 = some r) : zMr l yX0_letterOf wsX0_letterOf (zrm 1 21) D 44 X (zc shC X z0) [.ref (X.1 0), .int a0] (some (.int r)) := by
  rw [f_X0_letterOf] at h
  refine z_start_r (cc := cX0_letterOf) (maxL := 3) (ret := (some .int)) (by decide) rfl (Nat.le_of_ble_eq_true rfl) hinj ?_
  intro p e s m below meth c S
  refine z_bipush (v := (nI 97)) S dX0_letterOf_0 (by decide) ?_
  refine z_istore_n S [(2, .int (nI 97)), (0, .ref (X.1 0)), (1, .int a0)] dX0_letterOf_2 rfl (Nat.le_of_ble_eq_true rfl) rfl ?_
  exact z_lv [1, 2, 0] rfl (tl_X0_letterOf_3 S _ _ _ h)
/-! SoldLetters.buy: a walk -/
theorem hd_X3_buy : yX3_buy.cls = RX3 ∧ yX3_buy.cls ≠ "java/lang/invoke/MethodHandle" ∧ yX3_buy.cls ≠ "java/lang/invoke/VarHandle" ∧ (parseMethodDescriptor yX3_buy.desc).map (fun d => d.parameters.length) = some 1 := by decide +kernel
theorem m0_X3_buy : Cond.fieldLink RX3 12 RX3 (TX3 0).2.1 (TX3 0).2.2.1 ∈ wsX3_buy := by decide +kernel
theorem m1_X3_buy : ∀ w ∈ u_ws RX3 TX3 7, w ∈ wsX3_buy := by decide +kernel
theorem m2_X3_buy : Cond.fieldLink RX3 113 RX0 (TX0 2).2.1 (TX0 2).2.2.1 ∈ wsX3_buy := by decide +kernel
theorem m3_X3_buy : ∀ w ∈ u_ws RX0 TX0 11, w ∈ wsX3_buy := by decide +kernel
theorem m4_X3_buy : Cond.fieldLink RX3 152 RX0 (TX0 8).2.1 (TX0 8).2.2.1 ∈ wsX3_buy := by decide +kernel
theorem m5_X3_buy : Cond.fieldLink RX3 121 RX0 (TX0 1).2.1 (TX0 1).2.2.1 ∈ wsX3_buy := by decide +kernel
theorem m6_X3_buy : Cond.fieldLink RX3 164 RX0 (TX0 9).2.1 (TX0 9).2.2.1 ∈ wsX3_buy := by decide +kernel
set_option maxHeartbeats 4000000 in
set_option maxRecDepth 100000 in
theorem tj_X3_buy_100 {l : Launch} {D : va_G} {X : zE} {p : Program} {e : Env} {s : State} {m : MethodId} {args : Array Value} {below : List Frame} {meth : Method} {c : Code} (S : zS p m meth c cX3_buy 5 (some .int) s args wsX3_buy RX3 D 44 X) {r : Int32} {z1 : zV} : ∀ (z0 : zV) (x1 : Int32) (x2 : Int32) (x3 : Int32), j_X3_buy_100 z0 x1 x2 x3 = some (r, z1) → Zj true D 44 X p l e (zrm 4 104) s m args below meth c (MQ below (zQw D 44 X (zc shC X z1) (some (.int r))) args s 0 0 (zw_A 44 X.1)) 5 100 [(0, .ref (X.1 42)), (1, .int x1), (2, .int x2), (3, .int x3)] [] (zc shC X z0) := by
  intro z0 x1 x2 x3 h
  rw [j_X3_buy_100] at h
  refine z_aload_n S 0 dX3_buy_100 rfl rfl ?_
  refine z_get S (C := RX3) (T := TX3) (N := 7) (ci := 3) 0 m0_X3_buy m1_X3_buy (Nat.le_of_ble_eq_true rfl) (cC_42 X z0) rfl (Nat.le_of_ble_eq_true rfl) rfl rfl dX3_buy_101 ?_
  refine z_get S (C := RX0) (T := TX0) (N := 11) (ci := 0) 1 m5_X3_buy m3_X3_buy (Nat.le_of_ble_eq_true rfl) (cC_0 X z0) rfl (Nat.le_of_ble_eq_true rfl) rfl rfl dX3_buy_104 ?_
  refine z_iload_n S 1 dX3_buy_107 rfl rfl ?_
  refine z_iload_n S 3 dX3_buy_108 rfl rfl ?_
  refine z_iast S (Nat.le_of_ble_eq_true rfl) (fun _ => rfl) dX3_buy_109 h (fun z_109 h => ?_)
  refine z_aload_n S 0 dX3_buy_110 rfl rfl ?_
  refine z_get S (C := RX3) (T := TX3) (N := 7) (ci := 3) 0 m0_X3_buy m1_X3_buy (Nat.le_of_ble_eq_true rfl) (cC_42 X z_109) rfl (Nat.le_of_ble_eq_true rfl) rfl rfl dX3_buy_111 ?_
  refine z_get S (C := RX0) (T := TX0) (N := 11) (ci := 0) 2 m2_X3_buy m3_X3_buy (Nat.le_of_ble_eq_true rfl) (cC_0 X z_109) rfl (Nat.le_of_ble_eq_true rfl) rfl rfl dX3_buy_114 ?_
  refine z_iload_n S 1 dX3_buy_117 rfl rfl ?_
  refine z_iconst (v := (nI 1)) S dX3_buy_118 (by decide) ?_
  refine z_zast S (Nat.le_of_ble_eq_true rfl) (fun _ => rfl) dX3_buy_119 h (fun z_119 h => ?_)
  refine z_aload_n S 0 dX3_buy_120 rfl rfl ?_
  refine z_get S (C := RX3) (T := TX3) (N := 7) (ci := 3) 0 m0_X3_buy m1_X3_buy (Nat.le_of_ble_eq_true rfl) (cC_42 X z_119) rfl (Nat.le_of_ble_eq_true rfl) rfl rfl dX3_buy_121 ?_
  refine z_dup S dX3_buy_124 rfl ?_
  refine z_get S (C := RX0) (T := TX0) (N := 11) (ci := 0) 8 m4_X3_buy m3_X3_buy (Nat.le_of_ble_eq_true rfl) (cC_0 X z_119) rfl (Nat.le_of_ble_eq_true rfl) rfl rfl dX3_buy_125 ?_
  refine z_iload_n S 2 dX3_buy_128 rfl rfl ?_
  refine z_isub S dX3_buy_129 ?_
  refine z_put S (C := RX0) (T := TX0) (N := 11) (ci := 0) 8 tyX0_ok nmX0 m4_X3_buy m3_X3_buy (Nat.le_of_ble_eq_true rfl) (cC_0 X z_119) rfl (Nat.le_of_ble_eq_true rfl) rfl rfl rfl rfl (Nat.le_of_ble_eq_true rfl) rfl dX3_buy_130 h (fun z_130 h => ?_)
  refine z_aload_n S 0 dX3_buy_133 rfl rfl ?_
  refine z_get S (C := RX3) (T := TX3) (N := 7) (ci := 3) 0 m0_X3_buy m1_X3_buy (Nat.le_of_ble_eq_true rfl) (cC_42 X z_130) rfl (Nat.le_of_ble_eq_true rfl) rfl rfl dX3_buy_134 ?_
  refine z_dup S dX3_buy_137 rfl ?_
  refine z_get S (C := RX0) (T := TX0) (N := 11) (ci := 0) 9 m6_X3_buy m3_X3_buy (Nat.le_of_ble_eq_true rfl) (cC_0 X z_130) rfl (Nat.le_of_ble_eq_true rfl) rfl rfl dX3_buy_138 ?_
  refine z_iconst (v := (nI 1)) S dX3_buy_141 (by decide) ?_
  refine z_iadd S dX3_buy_142 ?_
  refine z_put S (C := RX0) (T := TX0) (N := 11) (ci := 0) 9 tyX0_ok nmX0 m6_X3_buy m3_X3_buy (Nat.le_of_ble_eq_true rfl) (cC_0 X z_130) rfl (Nat.le_of_ble_eq_true rfl) rfl rfl rfl rfl (Nat.le_of_ble_eq_true rfl) rfl dX3_buy_143 h (fun z_143 h => ?_)
  refine z_iload_n S 3 dX3_buy_146 rfl rfl ?_
  exact z_iret_w S dX3_buy_147 h
set_option maxHeartbeats 4000000 in
set_option maxRecDepth 100000 in
theorem c_X3_buy (l : Launch) (D : va_G) (X : zE) (z0 : zV) (a0 : Int32) (hinj : zw_inj 44 X.1) {r : Int32} {z1 : zV} (h : f_X3_buy z0 a0 = some (r, z1)) : zMw l yX3_buy wsX3_buy (zrm 4 104) D 44 X (zc shC X z0) [.ref (X.1 42), .int a0] (some (.int r)) (zc shC X z1) := by
  rw [f_X3_buy] at h
  refine z_start_w (cc := cX3_buy) (maxL := 5) (ret := (some .int)) (by decide) rfl (Nat.le_of_ble_eq_true rfl) hinj ?_
  intro p e s m below meth c S
  refine z_iload_n S 1 dX3_buy_0 rfl rfl ?_
  obtain ⟨v_1, hv_1, h⟩ := ob_some h
  refine z_callS_r (As := [.int a0]) S (c_X3_isNumber l D X _ _ S.2.2.1 hv_1) (va_cwS 1 S.1.2.2.2.2 gX3_buy_X3_isNumber rfl rfl rfl hd_X3_isNumber ⟨Nat.le_of_ble_eq_true rfl, Nat.le_of_ble_eq_true rfl⟩) rfl rfl (Nat.le_of_ble_eq_true rfl) rfl dX3_buy_1 ?_
  refine z_if_ne S (tgt := 9) dX3_buy_4 (by decide) h (fun h => ?_) (fun h => ?_)
  · refine z_aload_n S 0 dX3_buy_9 rfl rfl ?_
    refine z_get S (C := RX3) (T := TX3) (N := 7) (ci := 3) 0 m0_X3_buy m1_X3_buy (Nat.le_of_ble_eq_true rfl) (cC_42 X z0) rfl (Nat.le_of_ble_eq_true rfl) rfl rfl dX3_buy_10 ?_
    refine z_iload_n S 1 dX3_buy_13 rfl rfl ?_
    obtain ⟨v_14, hv_14, h⟩ := ob_some h
    refine z_callV_r (As := [.int a0]) S (c_X0_priceOf l D X _ _ S.2.2.1 hv_14) (cwV 1 S.1.2.2.2.2 gX3_buy_X0_priceOf rfl rfl rfl hd_X0_priceOf ⟨Nat.le_of_ble_eq_true rfl, Nat.le_of_ble_eq_true rfl⟩) (Nat.le_of_ble_eq_true rfl) (cC_0 X z0) rfl rfl rfl (Nat.le_of_ble_eq_true rfl) rfl dX3_buy_14 ?_
    refine z_istore_n S [(2, .int v_14), (0, .ref (X.1 42)), (1, .int a0)] dX3_buy_17 rfl (Nat.le_of_ble_eq_true rfl) rfl ?_
    refine z_aload_n S 1 dX3_buy_18 rfl rfl ?_
    refine z_get S (C := RX3) (T := TX3) (N := 7) (ci := 3) 0 m0_X3_buy m1_X3_buy (Nat.le_of_ble_eq_true rfl) (cC_42 X z0) rfl (Nat.le_of_ble_eq_true rfl) rfl rfl dX3_buy_19 ?_
    refine z_get S (C := RX0) (T := TX0) (N := 11) (ci := 0) 2 m2_X3_buy m3_X3_buy (Nat.le_of_ble_eq_true rfl) (cC_0 X z0) rfl (Nat.le_of_ble_eq_true rfl) rfl rfl dX3_buy_22 ?_
    refine z_iload_n S 2 dX3_buy_25 rfl rfl ?_
    refine z_zald S (Nat.le_of_ble_eq_true rfl) (cC_3 X z0) dX3_buy_26 h (fun v_26 h => ?_)
    refine z_if_ne S (tgt := 41) dX3_buy_27 (by decide) h (fun h => ?_) (fun h => ?_)
    · refine z_bipush (v := (-4)) S dX3_buy_41 (by decide) ?_
      exact z_iret_w S dX3_buy_43 h
    · refine z_aload_n S 1 dX3_buy_30 rfl rfl ?_
      refine z_get S (C := RX3) (T := TX3) (N := 7) (ci := 3) 0 m0_X3_buy m1_X3_buy (Nat.le_of_ble_eq_true rfl) (cC_42 X z0) rfl (Nat.le_of_ble_eq_true rfl) rfl rfl dX3_buy_31 ?_
      refine z_get S (C := RX0) (T := TX0) (N := 11) (ci := 0) 8 m4_X3_buy m3_X3_buy (Nat.le_of_ble_eq_true rfl) (cC_0 X z0) rfl (Nat.le_of_ble_eq_true rfl) rfl rfl dX3_buy_34 ?_
      refine z_iload_n S 0 dX3_buy_37 rfl rfl ?_
      refine z_icmp_ge S (tgt := 44) dX3_buy_38 (by decide) h (fun h => ?_) (fun h => ?_)
      · refine z_aload_n S 1 dX3_buy_44 rfl rfl ?_
        refine z_get S (C := RX3) (T := TX3) (N := 7) (ci := 3) 0 m0_X3_buy m1_X3_buy (Nat.le_of_ble_eq_true rfl) (cC_42 X z0) rfl (Nat.le_of_ble_eq_true rfl) rfl rfl dX3_buy_45 ?_
        refine z_iload_n S 2 dX3_buy_48 rfl rfl ?_
        obtain ⟨v_49, hv_49, h⟩ := ob_some h
        refine z_callV_r (As := [.int a0]) S (c_X0_cellsWith l D X _ _ S.2.2.1 hv_49) (cwV 1 S.1.2.2.2.2 gX3_buy_X0_cellsWith rfl rfl rfl hd_X0_cellsWith ⟨Nat.le_of_ble_eq_true rfl, Nat.le_of_ble_eq_true rfl⟩) (Nat.le_of_ble_eq_true rfl) (cC_0 X z0) rfl rfl rfl (Nat.le_of_ble_eq_true rfl) rfl dX3_buy_49 ?_
        refine z_if_ne S (tgt := 58) dX3_buy_52 (by decide) h (fun h => ?_) (fun h => ?_)
        · refine z_aload_n S 1 dX3_buy_58 rfl rfl ?_
          obtain ⟨z_59, hv_59, h⟩ := ob_some h
          refine z_callV_w (As := []) S (c_X3_remember l D X _ S.2.2.1 hv_59) (cwV 0 S.1.2.2.2.2 gX3_buy_X3_remember rfl rfl rfl hd_X3_remember ⟨Nat.le_of_ble_eq_true rfl, Nat.le_of_ble_eq_true rfl⟩) (Nat.le_of_ble_eq_true rfl) (cC_42 X z0) rfl rfl rfl (Nat.le_of_ble_eq_true rfl) rfl dX3_buy_59 ?_
          refine z_aload_n S 1 dX3_buy_62 rfl rfl ?_
          refine z_get S (C := RX3) (T := TX3) (N := 7) (ci := 3) 0 m0_X3_buy m1_X3_buy (Nat.le_of_ble_eq_true rfl) (cC_42 X z_59) rfl (Nat.le_of_ble_eq_true rfl) rfl rfl dX3_buy_63 ?_
          refine z_iload_n S 2 dX3_buy_66 rfl rfl ?_
          obtain ⟨v_67, hv_67, h⟩ := ob_some h
          refine z_callV_r (As := [.int a0]) S (c_X0_letterOf l D X _ _ S.2.2.1 hv_67) (cwV 1 S.1.2.2.2.2 gX3_buy_X0_letterOf rfl rfl rfl hd_X0_letterOf ⟨Nat.le_of_ble_eq_true rfl, Nat.le_of_ble_eq_true rfl⟩) (Nat.le_of_ble_eq_true rfl) (cC_0 X z_59) rfl rfl rfl (Nat.le_of_ble_eq_true rfl) rfl dX3_buy_67 ?_
          refine z_istore_n S [(3, .int v_67), (2, .int v_14), (0, .ref (X.1 42)), (1, .int a0)] dX3_buy_70 rfl (Nat.le_of_ble_eq_true rfl) rfl ?_
          refine z_aload_n S 2 dX3_buy_71 rfl rfl ?_
          refine z_get S (C := RX3) (T := TX3) (N := 7) (ci := 3) 0 m0_X3_buy m1_X3_buy (Nat.le_of_ble_eq_true rfl) (cC_42 X z_59) rfl (Nat.le_of_ble_eq_true rfl) rfl rfl dX3_buy_72 ?_
          refine z_iload_n S 0 dX3_buy_75 rfl rfl ?_
          obtain ⟨v_76, hv_76, h⟩ := ob_some h
          refine z_callV_r (As := [.int v_67]) S (c_X0_numberGuessedAs l D X _ _ S.2.2.1 hv_76) (cwV 1 S.1.2.2.2.2 gX3_buy_X0_numberGuessedAs rfl rfl rfl hd_X0_numberGuessedAs ⟨Nat.le_of_ble_eq_true rfl, Nat.le_of_ble_eq_true rfl⟩) (Nat.le_of_ble_eq_true rfl) (cC_0 X z_59) rfl rfl rfl (Nat.le_of_ble_eq_true rfl) rfl dX3_buy_76 ?_
          refine z_istore S [(4, .int v_76), (3, .int v_67), (2, .int v_14), (0, .ref (X.1 42)), (1, .int a0)] dX3_buy_79 (Nat.le_of_ble_eq_true rfl) rfl ?_
          refine z_iload S 0 dX3_buy_81 rfl ?_
          obtain ⟨v_83, hv_83, h⟩ := ob_some h
          refine z_callS_r (As := [.int v_76]) S (c_X3_isNumber l D X _ _ S.2.2.1 hv_83) (va_cwS 1 S.1.2.2.2.2 gX3_buy_X3_isNumber rfl rfl rfl hd_X3_isNumber ⟨Nat.le_of_ble_eq_true rfl, Nat.le_of_ble_eq_true rfl⟩) rfl rfl (Nat.le_of_ble_eq_true rfl) rfl dX3_buy_83 ?_
          refine z_if_eq S (tgt := 100) dX3_buy_86 (by decide) h (fun h => ?_) (fun h => ?_)
          · exact z_lv [3, 4, 2, 1] rfl (tj_X3_buy_100 S _ _ _ _ h)
          · refine z_aload_n S 3 dX3_buy_89 rfl rfl ?_
            refine z_get S (C := RX3) (T := TX3) (N := 7) (ci := 3) 0 m0_X3_buy m1_X3_buy (Nat.le_of_ble_eq_true rfl) (cC_42 X z_59) rfl (Nat.le_of_ble_eq_true rfl) rfl rfl dX3_buy_90 ?_
            refine z_get S (C := RX0) (T := TX0) (N := 11) (ci := 0) 1 m5_X3_buy m3_X3_buy (Nat.le_of_ble_eq_true rfl) (cC_0 X z_59) rfl (Nat.le_of_ble_eq_true rfl) rfl rfl dX3_buy_93 ?_
            refine z_iload S 0 dX3_buy_96 rfl ?_
            refine z_iconst (v := (nI 0)) S dX3_buy_98 (by decide) ?_
            refine z_iast S (Nat.le_of_ble_eq_true rfl) (fun _ => rfl) dX3_buy_99 h (fun z_99 h => ?_)
            exact z_lv [3, 4, 2, 1] rfl (tj_X3_buy_100 S _ _ _ _ h)
        · refine z_bipush (v := (-5)) S dX3_buy_55 (by decide) ?_
          exact z_iret_w S dX3_buy_57 h
      · refine z_bipush (v := (-4)) S dX3_buy_41 (by decide) ?_
        exact z_iret_w S dX3_buy_43 h
  · refine z_iconst (v := (-1)) S dX3_buy_7 (by decide) ?_
    exact z_iret_w S dX3_buy_8 h
/-! SoldLetters.check: a walk -/
theorem hd_X3_check : yX3_check.cls = RX3 ∧ yX3_check.cls ≠ "java/lang/invoke/MethodHandle" ∧ yX3_check.cls ≠ "java/lang/invoke/VarHandle" ∧ (parseMethodDescriptor yX3_check.desc).map (fun d => d.parameters.length) = some 1 := by decide +kernel
theorem m0_X3_check : Cond.fieldLink RX3 12 RX3 (TX3 0).2.1 (TX3 0).2.2.1 ∈ wsX3_check := by decide +kernel
theorem m1_X3_check : ∀ w ∈ u_ws RX3 TX3 7, w ∈ wsX3_check := by decide +kernel
theorem m2_X3_check : Cond.fieldLink RX3 152 RX0 (TX0 8).2.1 (TX0 8).2.2.1 ∈ wsX3_check := by decide +kernel
theorem m3_X3_check : ∀ w ∈ u_ws RX0 TX0 11, w ∈ wsX3_check := by decide +kernel
theorem m4_X3_check : Cond.fieldLink RX3 167 RX0 (TX0 10).2.1 (TX0 10).2.2.1 ∈ wsX3_check := by decide +kernel
theorem m5_X3_check : Cond.fieldLink RX3 19 RX3 (TX3 1).2.1 (TX3 1).2.2.1 ∈ wsX3_check := by decide +kernel
theorem m6_X3_check : Cond.fieldLink RX3 136 RX2 (TX2 1).2.1 (TX2 1).2.2.1 ∈ wsX3_check := by decide +kernel
theorem m7_X3_check : ∀ w ∈ u_ws RX2 TX2 4, w ∈ wsX3_check := by decide +kernel
theorem m8_X3_check : Cond.fieldLink RX3 48 RX0 (TX0 0).2.1 (TX0 0).2.2.1 ∈ wsX3_check := by decide +kernel
set_option maxHeartbeats 4000000 in
set_option maxRecDepth 100000 in
theorem tl_X3_check_57 {l : Launch} {D : va_G} {X : zE} {p : Program} {e : Env} {s : State} {m : MethodId} {args : Array Value} {below : List Frame} {meth : Method} {c : Code} (S : zS p m meth c cX3_check 6 (some .int) s args wsX3_check RX3 D 44 X) {r : Int32} {z1 : zV} : ∀ (n_ : Nat), ∀ (z0 : zV) (x1 : Int32) (x2 : Int32) (x3 : Int32), l_X3_check_57 n_ z0 x1 x2 x3 = some (r, z1) → Zj true D 44 X p l e (zrm 3 104) s m args below meth c (MQ below (zQw D 44 X (zc shC X z1) (some (.int r))) args s 0 0 (zw_A 44 X.1)) 6 57 [(0, .ref (X.1 42)), (1, .int x1), (2, .int x2), (3, .int x3)] [] (zc shC X z0) := by
  intro n_
  induction n_ with
  | zero =>
    intro z0 x1 x2 x3 h
    cases h
  | succ n_ ih =>
    intro z0 x1 x2 x3 h
    rw [l_X3_check_57] at h
    refine z_iload_n S 3 dX3_check_57 rfl rfl ?_
    refine z_aload_n S 0 dX3_check_58 rfl rfl ?_
    refine z_get S (C := RX3) (T := TX3) (N := 7) (ci := 3) 1 m5_X3_check m1_X3_check (Nat.le_of_ble_eq_true rfl) (cC_42 X z0) rfl (Nat.le_of_ble_eq_true rfl) rfl rfl dX3_check_59 ?_
    refine z_get S (C := RX2) (T := TX2) (N := 4) (ci := 2) 1 m6_X3_check m7_X3_check (Nat.le_of_ble_eq_true rfl) (cC_36 X z0) rfl (Nat.le_of_ble_eq_true rfl) rfl rfl dX3_check_62 ?_
    refine z_iload_n S 1 dX3_check_65 rfl rfl ?_
    refine z_iald S (Nat.le_of_ble_eq_true rfl) (cC_38 X z0) dX3_check_66 h (fun v_66 h => ?_)
    refine z_icmp_ge S (tgt := 121) dX3_check_67 (by decide) h (fun h => ?_) (fun h => ?_)
    · refine z_iload_n S 2 dX3_check_121 rfl rfl ?_
      exact z_iret_w S dX3_check_122 h
    · refine z_aload_n S 0 dX3_check_70 rfl rfl ?_
      refine z_get S (C := RX3) (T := TX3) (N := 7) (ci := 3) 1 m5_X3_check m1_X3_check (Nat.le_of_ble_eq_true rfl) (cC_42 X z0) rfl (Nat.le_of_ble_eq_true rfl) rfl rfl dX3_check_71 ?_
      refine z_iload_n S 1 dX3_check_74 rfl rfl ?_
      refine z_iload_n S 3 dX3_check_75 rfl rfl ?_
      obtain ⟨v_76, hv_76, h⟩ := ob_some h
      refine z_callV_r (As := [.int x1, .int x3]) S (c_X2_cellOf l D X _ _ _ S.2.2.1 hv_76) (cwV 2 S.1.2.2.2.2 gX3_check_X2_cellOf rfl rfl rfl hd_X2_cellOf ⟨Nat.le_of_ble_eq_true rfl, Nat.le_of_ble_eq_true rfl⟩) (Nat.le_of_ble_eq_true rfl) (cC_36 X z0) rfl rfl rfl (Nat.le_of_ble_eq_true rfl) rfl dX3_check_76 ?_
      refine z_istore S [(4, .int v_76), (0, .ref (X.1 42)), (1, .int x1), (2, .int x2), (3, .int x3)] dX3_check_79 (Nat.le_of_ble_eq_true rfl) rfl ?_
      refine z_aload_n S 1 dX3_check_81 rfl rfl ?_
      refine z_get S (C := RX3) (T := TX3) (N := 7) (ci := 3) 0 m0_X3_check m1_X3_check (Nat.le_of_ble_eq_true rfl) (cC_42 X z0) rfl (Nat.le_of_ble_eq_true rfl) rfl rfl dX3_check_82 ?_
      refine z_iload S 0 dX3_check_85 rfl ?_
      obtain ⟨v_87, hv_87, h⟩ := ob_some h
      refine z_callV_r (As := [.int v_76]) S (c_X0_guessAt l D X _ _ S.2.2.1 hv_87) (cwV 1 S.1.2.2.2.2 gX3_check_X0_guessAt rfl rfl rfl hd_X0_guessAt ⟨Nat.le_of_ble_eq_true rfl, Nat.le_of_ble_eq_true rfl⟩) (Nat.le_of_ble_eq_true rfl) (cC_0 X z0) rfl rfl rfl (Nat.le_of_ble_eq_true rfl) rfl dX3_check_87 ?_
      refine z_istore S [(5, .int v_87), (4, .int v_76), (0, .ref (X.1 42)), (1, .int x1), (2, .int x2), (3, .int x3)] dX3_check_90 (Nat.le_of_ble_eq_true rfl) rfl ?_
      refine z_iload S 0 dX3_check_92 rfl ?_
      refine z_if_eq S (tgt := 115) dX3_check_94 (by decide) h (fun h => ?_) (fun h => ?_)
      · refine z_iinc S 5 [(3, .int (x3 + nI 1)), (5, .int v_87), (4, .int v_76), (0, .ref (X.1 42)), (1, .int x1), (2, .int x2)] dX3_check_115 rfl rfl (Nat.le_of_ble_eq_true rfl) rfl ?_
        refine z_goto S (tgt := 57) dX3_check_118 (by decide) ?_
        exact z_lv [3, 4, 5, 0] rfl (ih _ _ _ _ h)
      · refine z_iload S 0 dX3_check_97 rfl ?_
        refine z_aload_n S 2 dX3_check_99 rfl rfl ?_
        refine z_get S (C := RX3) (T := TX3) (N := 7) (ci := 3) 0 m0_X3_check m1_X3_check (Nat.le_of_ble_eq_true rfl) (cC_42 X z0) rfl (Nat.le_of_ble_eq_true rfl) rfl rfl dX3_check_100 ?_
        refine z_get S (C := RX0) (T := TX0) (N := 11) (ci := 0) 0 m8_X3_check m3_X3_check (Nat.le_of_ble_eq_true rfl) (cC_0 X z0) rfl (Nat.le_of_ble_eq_true rfl) rfl rfl dX3_check_103 ?_
        refine z_iload S 1 dX3_check_106 rfl ?_
        refine z_iald S (Nat.le_of_ble_eq_true rfl) (cC_1 X z0) dX3_check_108 h (fun v_108 h => ?_)
        refine z_icmp_eq S (tgt := 115) dX3_check_109 (by decide) h (fun h => ?_) (fun h => ?_)
        · refine z_iinc S 5 [(3, .int (x3 + nI 1)), (5, .int v_87), (4, .int v_76), (0, .ref (X.1 42)), (1, .int x1), (2, .int x2)] dX3_check_115 rfl rfl (Nat.le_of_ble_eq_true rfl) rfl ?_
          refine z_goto S (tgt := 57) dX3_check_118 (by decide) ?_
          exact z_lv [3, 4, 5, 0] rfl (ih _ _ _ _ h)
        · refine z_iinc S 4 [(2, .int (x2 + nI 1)), (5, .int v_87), (4, .int v_76), (0, .ref (X.1 42)), (1, .int x1), (3, .int x3)] dX3_check_112 rfl rfl (Nat.le_of_ble_eq_true rfl) rfl ?_
          refine z_iinc S 5 [(3, .int (x3 + nI 1)), (2, .int (x2 + nI 1)), (5, .int v_87), (4, .int v_76), (0, .ref (X.1 42)), (1, .int x1)] dX3_check_115 rfl rfl (Nat.le_of_ble_eq_true rfl) rfl ?_
          refine z_goto S (tgt := 57) dX3_check_118 (by decide) ?_
          exact z_lv [4, 5, 1, 0] rfl (ih _ _ _ _ h)
set_option maxHeartbeats 4000000 in
set_option maxRecDepth 100000 in
theorem c_X3_check (l : Launch) (D : va_G) (X : zE) (z0 : zV) (a0 : Int32) (hinj : zw_inj 44 X.1) {r : Int32} {z1 : zV} (h : f_X3_check z0 a0 = some (r, z1)) : zMw l yX3_check wsX3_check (zrm 3 104) D 44 X (zc shC X z0) [.ref (X.1 42), .int a0] (some (.int r)) (zc shC X z1) := by
  rw [f_X3_check] at h
  refine z_start_w (cc := cX3_check) (maxL := 6) (ret := (some .int)) (by decide) rfl (Nat.le_of_ble_eq_true rfl) hinj ?_
  intro p e s m below meth c S
  refine z_aload_n S 0 dX3_check_0 rfl rfl ?_
  refine z_iload_n S 1 dX3_check_1 rfl rfl ?_
  obtain ⟨v_2, hv_2, h⟩ := ob_some h
  refine z_callV_r (As := [.int a0]) S (c_X3_isWord l D X _ _ S.2.2.1 hv_2) (cwV 1 S.1.2.2.2.2 gX3_check_X3_isWord rfl rfl rfl hd_X3_isWord ⟨Nat.le_of_ble_eq_true rfl, Nat.le_of_ble_eq_true rfl⟩) (Nat.le_of_ble_eq_true rfl) (cC_42 X z0) rfl rfl rfl (Nat.le_of_ble_eq_true rfl) rfl dX3_check_2 ?_
  refine z_if_ne S (tgt := 10) dX3_check_5 (by decide) h (fun h => ?_) (fun h => ?_)
  · refine z_aload_n S 0 dX3_check_10 rfl rfl ?_
    refine z_get S (C := RX3) (T := TX3) (N := 7) (ci := 3) 0 m0_X3_check m1_X3_check (Nat.le_of_ble_eq_true rfl) (cC_42 X z0) rfl (Nat.le_of_ble_eq_true rfl) rfl rfl dX3_check_11 ?_
    refine z_get S (C := RX0) (T := TX0) (N := 11) (ci := 0) 8 m2_X3_check m3_X3_check (Nat.le_of_ble_eq_true rfl) (cC_0 X z0) rfl (Nat.le_of_ble_eq_true rfl) rfl rfl dX3_check_14 ?_
    refine z_if_ne S (tgt := 23) dX3_check_17 (by decide) h (fun h => ?_) (fun h => ?_)
    · refine z_aload_n S 0 dX3_check_23 rfl rfl ?_
      obtain ⟨z_24, hv_24, h⟩ := ob_some h
      refine z_callV_w (As := []) S (c_X3_remember l D X _ S.2.2.1 hv_24) (cwV 0 S.1.2.2.2.2 gX3_check_X3_remember rfl rfl rfl hd_X3_remember ⟨Nat.le_of_ble_eq_true rfl, Nat.le_of_ble_eq_true rfl⟩) (Nat.le_of_ble_eq_true rfl) (cC_42 X z0) rfl rfl rfl (Nat.le_of_ble_eq_true rfl) rfl dX3_check_24 ?_
      refine z_aload_n S 0 dX3_check_27 rfl rfl ?_
      refine z_get S (C := RX3) (T := TX3) (N := 7) (ci := 3) 0 m0_X3_check m1_X3_check (Nat.le_of_ble_eq_true rfl) (cC_42 X z_24) rfl (Nat.le_of_ble_eq_true rfl) rfl rfl dX3_check_28 ?_
      refine z_dup S dX3_check_31 rfl ?_
      refine z_get S (C := RX0) (T := TX0) (N := 11) (ci := 0) 8 m2_X3_check m3_X3_check (Nat.le_of_ble_eq_true rfl) (cC_0 X z_24) rfl (Nat.le_of_ble_eq_true rfl) rfl rfl dX3_check_32 ?_
      refine z_iconst (v := (nI 1)) S dX3_check_35 (by decide) ?_
      refine z_isub S dX3_check_36 ?_
      refine z_put S (C := RX0) (T := TX0) (N := 11) (ci := 0) 8 tyX0_ok nmX0 m2_X3_check m3_X3_check (Nat.le_of_ble_eq_true rfl) (cC_0 X z_24) rfl (Nat.le_of_ble_eq_true rfl) rfl rfl rfl rfl (Nat.le_of_ble_eq_true rfl) rfl dX3_check_37 h (fun z_37 h => ?_)
      refine z_aload_n S 0 dX3_check_40 rfl rfl ?_
      refine z_get S (C := RX3) (T := TX3) (N := 7) (ci := 3) 0 m0_X3_check m1_X3_check (Nat.le_of_ble_eq_true rfl) (cC_42 X z_37) rfl (Nat.le_of_ble_eq_true rfl) rfl rfl dX3_check_41 ?_
      refine z_dup S dX3_check_44 rfl ?_
      refine z_get S (C := RX0) (T := TX0) (N := 11) (ci := 0) 10 m4_X3_check m3_X3_check (Nat.le_of_ble_eq_true rfl) (cC_0 X z_37) rfl (Nat.le_of_ble_eq_true rfl) rfl rfl dX3_check_45 ?_
      refine z_iconst (v := (nI 1)) S dX3_check_48 (by decide) ?_
      refine z_iadd S dX3_check_49 ?_
      refine z_put S (C := RX0) (T := TX0) (N := 11) (ci := 0) 10 tyX0_ok nmX0 m4_X3_check m3_X3_check (Nat.le_of_ble_eq_true rfl) (cC_0 X z_37) rfl (Nat.le_of_ble_eq_true rfl) rfl rfl rfl rfl (Nat.le_of_ble_eq_true rfl) rfl dX3_check_50 h (fun z_50 h => ?_)
      refine z_iconst (v := (nI 0)) S dX3_check_53 (by decide) ?_
      refine z_istore_n S [(2, .int (nI 0)), (0, .ref (X.1 42)), (1, .int a0)] dX3_check_54 rfl (Nat.le_of_ble_eq_true rfl) rfl ?_
      refine z_iconst (v := (nI 0)) S dX3_check_55 (by decide) ?_
      refine z_istore_n S [(3, .int (nI 0)), (2, .int (nI 0)), (0, .ref (X.1 42)), (1, .int a0)] dX3_check_56 rfl (Nat.le_of_ble_eq_true rfl) rfl ?_
      exact z_lv [2, 3, 1, 0] rfl (tl_X3_check_57 S _ _ _ _ _ h)
    · refine z_bipush (v := (-4)) S dX3_check_20 (by decide) ?_
      exact z_iret_w S dX3_check_22 h
  · refine z_iconst (v := (-1)) S dX3_check_8 (by decide) ?_
    exact z_iret_w S dX3_check_9 h
/-! SoldLetters.give: a walk -/
theorem hd_X3_give : yX3_give.cls = RX3 ∧ yX3_give.cls ≠ "java/lang/invoke/MethodHandle" ∧ yX3_give.cls ≠ "java/lang/invoke/VarHandle" ∧ (parseMethodDescriptor yX3_give.desc).map (fun d => d.parameters.length) = some 1 := by decide +kernel
theorem m0_X3_give : Cond.fieldLink RX3 12 RX3 (TX3 0).2.1 (TX3 0).2.2.1 ∈ wsX3_give := by decide +kernel
theorem m1_X3_give : ∀ w ∈ u_ws RX3 TX3 7, w ∈ wsX3_give := by decide +kernel
theorem m2_X3_give : Cond.fieldLink RX3 152 RX0 (TX0 8).2.1 (TX0 8).2.2.1 ∈ wsX3_give := by decide +kernel
theorem m3_X3_give : ∀ w ∈ u_ws RX0 TX0 11, w ∈ wsX3_give := by decide +kernel
theorem m4_X3_give : Cond.methodLink RX3 176 Lib.Math.min.name ∈ wsX3_give := by decide +kernel
theorem m5_X3_give : Cond.static Lib.Math.min.name ∈ wsX3_give := by decide +kernel
theorem m6_X3_give : Cond.initialized "java/lang/Math" ∈ wsX3_give := by decide +kernel
theorem m7_X3_give : Cond.code Lib.Math.min.name Lib.Math.min.code 2 (some .int) ∈ wsX3_give := by decide +kernel
set_option maxHeartbeats 4000000 in
set_option maxRecDepth 100000 in
theorem c_X3_give (l : Launch) (D : va_G) (X : zE) (z0 : zV) (a0 : Int32) (hinj : zw_inj 44 X.1) {r : Int32} {z1 : zV} (h : f_X3_give z0 a0 = some (r, z1)) : zMw l yX3_give wsX3_give (zrm 3 104) D 44 X (zc shC X z0) [.ref (X.1 42), .int a0] (some (.int r)) (zc shC X z1) := by
  rw [f_X3_give] at h
  refine z_start_w (cc := cX3_give) (maxL := 2) (ret := (some .int)) (by decide) rfl (Nat.le_of_ble_eq_true rfl) hinj ?_
  intro p e s m below meth c S
  refine z_iload_n S 1 dX3_give_0 rfl rfl ?_
  refine z_iconst (v := (nI 1)) S dX3_give_1 (by decide) ?_
  refine z_icmp_lt S (tgt := 11) dX3_give_2 (by decide) h (fun h => ?_) (fun h => ?_)
  · refine z_bipush (v := (-2)) S dX3_give_11 (by decide) ?_
    exact z_iret_w S dX3_give_13 h
  · refine z_iload_n S 1 dX3_give_5 rfl rfl ?_
    refine z_bipush (v := (nI 99)) S dX3_give_6 (by decide) ?_
    refine z_icmp_le S (tgt := 14) dX3_give_8 (by decide) h (fun h => ?_) (fun h => ?_)
    · refine z_aload_n S 0 dX3_give_14 rfl rfl ?_
      refine z_get S (C := RX3) (T := TX3) (N := 7) (ci := 3) 0 m0_X3_give m1_X3_give (Nat.le_of_ble_eq_true rfl) (cC_42 X z0) rfl (Nat.le_of_ble_eq_true rfl) rfl rfl dX3_give_15 ?_
      refine z_get S (C := RX0) (T := TX0) (N := 11) (ci := 0) 8 m2_X3_give m3_X3_give (Nat.le_of_ble_eq_true rfl) (cC_0 X z0) rfl (Nat.le_of_ble_eq_true rfl) rfl rfl dX3_give_18 ?_
      refine z_sipush (v := (nI 999)) S dX3_give_21 (by decide) ?_
      refine z_icmp_ne S (tgt := 30) dX3_give_24 (by decide) h (fun h => ?_) (fun h => ?_)
      · refine z_aload_n S 0 dX3_give_30 rfl rfl ?_
        obtain ⟨z_31, hv_31, h⟩ := ob_some h
        refine z_callV_w (As := []) S (c_X3_remember l D X _ S.2.2.1 hv_31) (cwV 0 S.1.2.2.2.2 gX3_give_X3_remember rfl rfl rfl hd_X3_remember ⟨Nat.le_of_ble_eq_true rfl, Nat.le_of_ble_eq_true rfl⟩) (Nat.le_of_ble_eq_true rfl) (cC_42 X z0) rfl rfl rfl (Nat.le_of_ble_eq_true rfl) rfl dX3_give_31 ?_
        refine z_aload_n S 0 dX3_give_34 rfl rfl ?_
        refine z_get S (C := RX3) (T := TX3) (N := 7) (ci := 3) 0 m0_X3_give m1_X3_give (Nat.le_of_ble_eq_true rfl) (cC_42 X z_31) rfl (Nat.le_of_ble_eq_true rfl) rfl rfl dX3_give_35 ?_
        refine z_sipush (v := (nI 999)) S dX3_give_38 (by decide) ?_
        refine z_aload_n S 0 dX3_give_41 rfl rfl ?_
        refine z_get S (C := RX3) (T := TX3) (N := 7) (ci := 3) 0 m0_X3_give m1_X3_give (Nat.le_of_ble_eq_true rfl) (cC_42 X z_31) rfl (Nat.le_of_ble_eq_true rfl) rfl rfl dX3_give_42 ?_
        refine z_get S (C := RX0) (T := TX0) (N := 11) (ci := 0) 8 m2_X3_give m3_X3_give (Nat.le_of_ble_eq_true rfl) (cC_0 X z_31) rfl (Nat.le_of_ble_eq_true rfl) rfl rfl dX3_give_45 ?_
        refine z_iload_n S 1 dX3_give_48 rfl rfl ?_
        refine z_iadd S dX3_give_49 ?_
        refine z_mmin S rfl m4_X3_give m5_X3_give m6_X3_give m7_X3_give (Nat.le_of_ble_eq_true rfl) (Nat.le_of_ble_eq_true rfl) dX3_give_50 ?_
        refine z_put S (C := RX0) (T := TX0) (N := 11) (ci := 0) 8 tyX0_ok nmX0 m2_X3_give m3_X3_give (Nat.le_of_ble_eq_true rfl) (cC_0 X z_31) rfl (Nat.le_of_ble_eq_true rfl) rfl rfl rfl rfl (Nat.le_of_ble_eq_true rfl) rfl dX3_give_53 h (fun z_53 h => ?_)
        refine z_aload_n S 0 dX3_give_56 rfl rfl ?_
        refine z_get S (C := RX3) (T := TX3) (N := 7) (ci := 3) 0 m0_X3_give m1_X3_give (Nat.le_of_ble_eq_true rfl) (cC_42 X z_53) rfl (Nat.le_of_ble_eq_true rfl) rfl rfl dX3_give_57 ?_
        refine z_get S (C := RX0) (T := TX0) (N := 11) (ci := 0) 8 m2_X3_give m3_X3_give (Nat.le_of_ble_eq_true rfl) (cC_0 X z_53) rfl (Nat.le_of_ble_eq_true rfl) rfl rfl dX3_give_60 ?_
        exact z_iret_w S dX3_give_63 h
      · refine z_bipush (v := (-5)) S dX3_give_27 (by decide) ?_
        exact z_iret_w S dX3_give_29 h
    · refine z_bipush (v := (-2)) S dX3_give_11 (by decide) ?_
      exact z_iret_w S dX3_give_13 h
/-! SoldLetters$Text.append: a walk -/
theorem hd_X1_append : yX1_append.cls = RX1 ∧ yX1_append.cls ≠ "java/lang/invoke/MethodHandle" ∧ yX1_append.cls ≠ "java/lang/invoke/VarHandle" ∧ (parseMethodDescriptor yX1_append.desc).map (fun d => d.parameters.length) = some 1 := by decide +kernel
theorem m0_X1_append : Cond.fieldLink RX1 9 RX1 (TX1 0).2.1 (TX1 0).2.2.1 ∈ wsX1_append := by decide +kernel
theorem m1_X1_append : ∀ w ∈ u_ws RX1 TX1 2, w ∈ wsX1_append := by decide +kernel
theorem m2_X1_append : Cond.fieldLink RX1 15 RX1 (TX1 1).2.1 (TX1 1).2.2.1 ∈ wsX1_append := by decide +kernel
set_option maxHeartbeats 4000000 in
set_option maxRecDepth 100000 in
theorem c_X1_append (l : Launch) (D : va_G) (X : zE) (z0 : zV) (a0 : Int32) (hinj : zw_inj 44 X.1) {z1 : zV} (h : f_X1_append z0 a0 = some z1) : zMw l yX1_append wsX1_append (zrm 0 0) D 44 X (zc shC X z0) [.ref (X.1 40), .int a0] none (zc shC X z1) := by
  rw [f_X1_append] at h
  refine z_start_w (cc := cX1_append) (maxL := 2) (ret := none) (by decide) rfl (Nat.le_of_ble_eq_true rfl) hinj ?_
  intro p e s m below meth c S
  refine z_aload_n S 0 dX1_append_0 rfl rfl ?_
  refine z_get S (C := RX1) (T := TX1) (N := 2) (ci := 1) 0 m0_X1_append m1_X1_append (Nat.le_of_ble_eq_true rfl) (cC_40 X z0) rfl (Nat.le_of_ble_eq_true rfl) rfl rfl dX1_append_1 ?_
  refine z_aload_n S 0 dX1_append_4 rfl rfl ?_
  refine z_get S (C := RX1) (T := TX1) (N := 2) (ci := 1) 1 m2_X1_append m1_X1_append (Nat.le_of_ble_eq_true rfl) (cC_40 X z0) rfl (Nat.le_of_ble_eq_true rfl) rfl rfl dX1_append_5 ?_
  refine z_iload_n S 1 dX1_append_8 rfl rfl ?_
  refine z_iast S (Nat.le_of_ble_eq_true rfl) (fun _ => rfl) dX1_append_9 h (fun z_9 h => ?_)
  refine z_aload_n S 0 dX1_append_10 rfl rfl ?_
  refine z_dup S dX1_append_11 rfl ?_
  refine z_get S (C := RX1) (T := TX1) (N := 2) (ci := 1) 1 m2_X1_append m1_X1_append (Nat.le_of_ble_eq_true rfl) (cC_40 X z_9) rfl (Nat.le_of_ble_eq_true rfl) rfl rfl dX1_append_12 ?_
  refine z_iconst (v := (nI 1)) S dX1_append_15 (by decide) ?_
  refine z_iadd S dX1_append_16 ?_
  refine z_put S (C := RX1) (T := TX1) (N := 2) (ci := 1) 1 tyX1_ok nmX1 m2_X1_append m1_X1_append (Nat.le_of_ble_eq_true rfl) (cC_40 X z_9) rfl (Nat.le_of_ble_eq_true rfl) rfl rfl rfl rfl (Nat.le_of_ble_eq_true rfl) rfl dX1_append_17 h (fun z_17 h => ?_)
  exact z_vret_w S dX1_append_20 h
/-! SoldLetters.type: a walk -/
theorem hd_X3_type : yX3_type.cls = RX3 ∧ yX3_type.cls ≠ "java/lang/invoke/MethodHandle" ∧ yX3_type.cls ≠ "java/lang/invoke/VarHandle" ∧ (parseMethodDescriptor yX3_type.desc).map (fun d => d.parameters.length) = some 1 := by decide +kernel
theorem m0_X3_type : Cond.fieldLink RX3 26 RX3 (TX3 2).2.1 (TX3 2).2.2.1 ∈ wsX3_type := by decide +kernel
theorem m1_X3_type : ∀ w ∈ u_ws RX3 TX3 7, w ∈ wsX3_type := by decide +kernel
theorem m2_X3_type : Cond.fieldLink RX3 88 RX1 (TX1 1).2.1 (TX1 1).2.2.1 ∈ wsX3_type := by decide +kernel
theorem m3_X3_type : ∀ w ∈ u_ws RX1 TX1 2, w ∈ wsX3_type := by decide +kernel
set_option maxHeartbeats 4000000 in
set_option maxRecDepth 100000 in
theorem c_X3_type (l : Launch) (D : va_G) (X : zE) (z0 : zV) (a0 : Int32) (hinj : zw_inj 44 X.1) {r : Int32} {z1 : zV} (h : f_X3_type z0 a0 = some (r, z1)) : zMw l yX3_type wsX3_type (zrm 1 21) D 44 X (zc shC X z0) [.ref (X.1 42), .int a0] (some (.int r)) (zc shC X z1) := by
  rw [f_X3_type] at h
  refine z_start_w (cc := cX3_type) (maxL := 2) (ret := (some .int)) (by decide) rfl (Nat.le_of_ble_eq_true rfl) hinj ?_
  intro p e s m below meth c S
  refine z_aload_n S 0 dX3_type_0 rfl rfl ?_
  refine z_get S (C := RX3) (T := TX3) (N := 7) (ci := 3) 2 m0_X3_type m1_X3_type (Nat.le_of_ble_eq_true rfl) (cC_42 X z0) rfl (Nat.le_of_ble_eq_true rfl) rfl rfl dX3_type_1 ?_
  refine z_get S (C := RX1) (T := TX1) (N := 2) (ci := 1) 1 m2_X3_type m3_X3_type (Nat.le_of_ble_eq_true rfl) (cC_40 X z0) rfl (Nat.le_of_ble_eq_true rfl) rfl rfl dX3_type_4 ?_
  refine z_bipush (v := (nI 60)) S dX3_type_7 (by decide) ?_
  refine z_icmp_lt S (tgt := 15) dX3_type_9 (by decide) h (fun h => ?_) (fun h => ?_)
  · refine z_aload_n S 0 dX3_type_15 rfl rfl ?_
    refine z_get S (C := RX3) (T := TX3) (N := 7) (ci := 3) 2 m0_X3_type m1_X3_type (Nat.le_of_ble_eq_true rfl) (cC_42 X z0) rfl (Nat.le_of_ble_eq_true rfl) rfl rfl dX3_type_16 ?_
    refine z_iload_n S 1 dX3_type_19 rfl rfl ?_
    obtain ⟨z_20, hv_20, h⟩ := ob_some h
    refine z_callV_w (As := [.int a0]) S (c_X1_append l D X _ _ S.2.2.1 hv_20) (cwV 1 S.1.2.2.2.2 gX3_type_X1_append rfl rfl rfl hd_X1_append ⟨Nat.le_of_ble_eq_true rfl, Nat.le_of_ble_eq_true rfl⟩) (Nat.le_of_ble_eq_true rfl) (cC_40 X z0) rfl rfl rfl (Nat.le_of_ble_eq_true rfl) rfl dX3_type_20 ?_
    refine z_aload_n S 0 dX3_type_23 rfl rfl ?_
    refine z_get S (C := RX3) (T := TX3) (N := 7) (ci := 3) 2 m0_X3_type m1_X3_type (Nat.le_of_ble_eq_true rfl) (cC_42 X z_20) rfl (Nat.le_of_ble_eq_true rfl) rfl rfl dX3_type_24 ?_
    refine z_get S (C := RX1) (T := TX1) (N := 2) (ci := 1) 1 m2_X3_type m3_X3_type (Nat.le_of_ble_eq_true rfl) (cC_40 X z_20) rfl (Nat.le_of_ble_eq_true rfl) rfl rfl dX3_type_27 ?_
    exact z_iret_w S dX3_type_30 h
  · refine z_bipush (v := (-3)) S dX3_type_12 (by decide) ?_
    exact z_iret_w S dX3_type_14 h
/-! SoldLetters.clearText: a walk -/
theorem hd_X3_clearText : yX3_clearText.cls = RX3 ∧ yX3_clearText.cls ≠ "java/lang/invoke/MethodHandle" ∧ yX3_clearText.cls ≠ "java/lang/invoke/VarHandle" ∧ (parseMethodDescriptor yX3_clearText.desc).map (fun d => d.parameters.length) = some 0 := by decide +kernel
theorem m0_X3_clearText : Cond.fieldLink RX3 26 RX3 (TX3 2).2.1 (TX3 2).2.2.1 ∈ wsX3_clearText := by decide +kernel
theorem m1_X3_clearText : ∀ w ∈ u_ws RX3 TX3 7, w ∈ wsX3_clearText := by decide +kernel
theorem m2_X3_clearText : Cond.fieldLink RX3 88 RX1 (TX1 1).2.1 (TX1 1).2.2.1 ∈ wsX3_clearText := by decide +kernel
theorem m3_X3_clearText : ∀ w ∈ u_ws RX1 TX1 2, w ∈ wsX3_clearText := by decide +kernel
set_option maxHeartbeats 4000000 in
set_option maxRecDepth 100000 in
theorem c_X3_clearText (l : Launch) (D : va_G) (X : zE) (z0 : zV) (hinj : zw_inj 44 X.1) {r : Int32} {z1 : zV} (h : f_X3_clearText z0 = some (r, z1)) : zMw l yX3_clearText wsX3_clearText (zrm 0 0) D 44 X (zc shC X z0) [.ref (X.1 42)] (some (.int r)) (zc shC X z1) := by
  rw [f_X3_clearText] at h
  refine z_start_w (cc := cX3_clearText) (maxL := 2) (ret := (some .int)) (by decide) rfl (Nat.le_of_ble_eq_true rfl) hinj ?_
  intro p e s m below meth c S
  refine z_aload_n S 0 dX3_clearText_0 rfl rfl ?_
  refine z_get S (C := RX3) (T := TX3) (N := 7) (ci := 3) 2 m0_X3_clearText m1_X3_clearText (Nat.le_of_ble_eq_true rfl) (cC_42 X z0) rfl (Nat.le_of_ble_eq_true rfl) rfl rfl dX3_clearText_1 ?_
  refine z_get S (C := RX1) (T := TX1) (N := 2) (ci := 1) 1 m2_X3_clearText m3_X3_clearText (Nat.le_of_ble_eq_true rfl) (cC_40 X z0) rfl (Nat.le_of_ble_eq_true rfl) rfl rfl dX3_clearText_4 ?_
  refine z_istore_n S [(1, .int (z0.1 40 1)), (0, .ref (X.1 42))] dX3_clearText_7 rfl (Nat.le_of_ble_eq_true rfl) rfl ?_
  refine z_aload_n S 1 dX3_clearText_8 rfl rfl ?_
  refine z_get S (C := RX3) (T := TX3) (N := 7) (ci := 3) 2 m0_X3_clearText m1_X3_clearText (Nat.le_of_ble_eq_true rfl) (cC_42 X z0) rfl (Nat.le_of_ble_eq_true rfl) rfl rfl dX3_clearText_9 ?_
  refine z_iconst (v := (nI 0)) S dX3_clearText_12 (by decide) ?_
  refine z_put S (C := RX1) (T := TX1) (N := 2) (ci := 1) 1 tyX1_ok nmX1 m2_X3_clearText m3_X3_clearText (Nat.le_of_ble_eq_true rfl) (cC_40 X z0) rfl (Nat.le_of_ble_eq_true rfl) rfl rfl rfl rfl (Nat.le_of_ble_eq_true rfl) rfl dX3_clearText_13 h (fun z_13 h => ?_)
  refine z_iload_n S 0 dX3_clearText_16 rfl rfl ?_
  exact z_iret_w S dX3_clearText_17 h
