/-! SoldLetters.isInGrid: a walk -/
theorem hd_X3_isInGrid : yX3_isInGrid.cls ≠ "java/lang/invoke/MethodHandle" ∧ yX3_isInGrid.cls ≠ "java/lang/invoke/VarHandle" ∧ (parseMethodDescriptor yX3_isInGrid.desc).map (fun d => d.parameters.length) = some 1 := by decide +kernel
set_option maxHeartbeats 4000000 in
set_option maxRecDepth 100000 in
theorem c_X3_isInGrid (l : Launch) (D : va_G) (X : zE) (z0 : zV) (a0 : Int32) (hinj : zw_inj 44 X.1) {r : Int32} (h : f_X3_isInGrid z0 a0 = some r) : zMr l yX3_isInGrid wsX3_isInGrid (zrm 0 0) D 44 X (zc shC X z0) [.int a0] (some (.int r)) := by
  rw [f_X3_isInGrid] at h
  refine z_start_r (cc := cX3_isInGrid) (maxL := 1) (ret := (some .boolean)) (by decide) rfl (Nat.le_of_ble_eq_true rfl) hinj ?_
  intro p e s m below meth c S
  refine z_iload_n S 0 dX3_isInGrid_0 rfl rfl ?_
  refine z_if_lt S (tgt := 14) dX3_isInGrid_1 (by decide) h (fun h => ?_) (fun h => ?_)
  · refine z_iconst (v := (nI 0)) S dX3_isInGrid_14 (by decide) ?_
    exact z_zret_r S dX3_isInGrid_15 h
  · refine z_iload_n S 0 dX3_isInGrid_4 rfl rfl ?_
    refine z_bipush (v := (nI 7)) S dX3_isInGrid_5 (by decide) ?_
    refine z_icmp_ge S (tgt := 14) dX3_isInGrid_7 (by decide) h (fun h => ?_) (fun h => ?_)
    · refine z_iconst (v := (nI 0)) S dX3_isInGrid_14 (by decide) ?_
      exact z_zret_r S dX3_isInGrid_15 h
    · refine z_iconst (v := (nI 1)) S dX3_isInGrid_10 (by decide) ?_
      refine z_goto S (tgt := 15) dX3_isInGrid_11 (by decide) ?_
      exact z_zret_r S dX3_isInGrid_15 h
/-! SoldLetters.isLetter: a walk -/
theorem hd_X3_isLetter : yX3_isLetter.cls ≠ "java/lang/invoke/MethodHandle" ∧ yX3_isLetter.cls ≠ "java/lang/invoke/VarHandle" ∧ (parseMethodDescriptor yX3_isLetter.desc).map (fun d => d.parameters.length) = some 1 := by decide +kernel
set_option maxHeartbeats 4000000 in
set_option maxRecDepth 100000 in
theorem c_X3_isLetter (l : Launch) (D : va_G) (X : zE) (z0 : zV) (a0 : Int32) (hinj : zw_inj 44 X.1) {r : Int32} (h : f_X3_isLetter z0 a0 = some r) : zMr l yX3_isLetter wsX3_isLetter (zrm 0 0) D 44 X (zc shC X z0) [.int a0] (some (.int r)) := by
  rw [f_X3_isLetter] at h
  refine z_start_r (cc := cX3_isLetter) (maxL := 1) (ret := (some .boolean)) (by decide) rfl (Nat.le_of_ble_eq_true rfl) hinj ?_
  intro p e s m below meth c S
  refine z_iload_n S 0 dX3_isLetter_0 rfl rfl ?_
  refine z_bipush (v := (nI 97)) S dX3_isLetter_1 (by decide) ?_
  refine z_icmp_lt S (tgt := 16) dX3_isLetter_3 (by decide) h (fun h => ?_) (fun h => ?_)
  · refine z_iconst (v := (nI 0)) S dX3_isLetter_16 (by decide) ?_
    exact z_zret_r S dX3_isLetter_17 h
  · refine z_iload_n S 0 dX3_isLetter_6 rfl rfl ?_
    refine z_bipush (v := (nI 122)) S dX3_isLetter_7 (by decide) ?_
    refine z_icmp_gt S (tgt := 16) dX3_isLetter_9 (by decide) h (fun h => ?_) (fun h => ?_)
    · refine z_iconst (v := (nI 0)) S dX3_isLetter_16 (by decide) ?_
      exact z_zret_r S dX3_isLetter_17 h
    · refine z_iconst (v := (nI 1)) S dX3_isLetter_12 (by decide) ?_
      refine z_goto S (tgt := 17) dX3_isLetter_13 (by decide) ?_
      exact z_zret_r S dX3_isLetter_17 h
/-! SoldLetters$Text.faultAsRow: a walk -/
theorem hd_X1_faultAsRow : yX1_faultAsRow.cls = RX1 ∧ yX1_faultAsRow.cls ≠ "java/lang/invoke/MethodHandle" ∧ yX1_faultAsRow.cls ≠ "java/lang/invoke/VarHandle" ∧ (parseMethodDescriptor yX1_faultAsRow.desc).map (fun d => d.parameters.length) = some 0 := by decide +kernel
theorem m0_X1_faultAsRow : Cond.fieldLink RX1 15 RX1 (TX1 1).2.1 (TX1 1).2.2.1 ∈ wsX1_faultAsRow := by decide +kernel
theorem m1_X1_faultAsRow : ∀ w ∈ u_ws RX1 TX1 2, w ∈ wsX1_faultAsRow := by decide +kernel
theorem m2_X1_faultAsRow : Cond.fieldLink RX1 9 RX1 (TX1 0).2.1 (TX1 0).2.2.1 ∈ wsX1_faultAsRow := by decide +kernel
theorem m3_X1_faultAsRow : Cond.static yX3_isLetter ∈ wsX1_faultAsRow := by decide +kernel
theorem m4_X1_faultAsRow : Cond.initialized RX3 ∈ wsX1_faultAsRow := by decide +kernel
set_option maxHeartbeats 4000000 in
set_option maxRecDepth 100000 in
theorem tl_X1_faultAsRow_2 {l : Launch} {D : va_G} {X : zE} {p : Program} {e : Env} {s : State} {m : MethodId} {args : Array Value} {below : List Frame} {meth : Method} {c : Code} (S : zS p m meth c cX1_faultAsRow 2 (some .int) s args wsX1_faultAsRow RX1 D 44 X) {z0 : zV} {r : Int32} : ∀ (n_ : Nat), ∀ (x1 : Int32), l_X1_faultAsRow_2 z0 n_ x1 = some r → Zj false D 44 X p l e (zrm 1 20) s m args below meth c (MQ below (zQr (some (.int r))) args s 0 0 (fun _ => False)) 2 2 [(0, .ref (X.1 40)), (1, .int x1)] [] (zc shC X z0) := by
  intro n_
  induction n_ with
  | zero =>
    intro x1 h
    cases h
  | succ n_ ih =>
    intro x1 h
    rw [l_X1_faultAsRow_2] at h
    refine z_iload_n S 1 dX1_faultAsRow_2 rfl rfl ?_
    refine z_aload_n S 0 dX1_faultAsRow_3 rfl rfl ?_
    refine z_get S (C := RX1) (T := TX1) (N := 2) (ci := 1) 1 m0_X1_faultAsRow m1_X1_faultAsRow (Nat.le_of_ble_eq_true rfl) (cC_40 X z0) rfl (Nat.le_of_ble_eq_true rfl) rfl rfl dX1_faultAsRow_4 ?_
    refine z_icmp_ge S (tgt := 47) dX1_faultAsRow_7 (by decide) h (fun h => ?_) (fun h => ?_)
    · refine z_aload_n S 0 dX1_faultAsRow_47 rfl rfl ?_
      refine z_get S (C := RX1) (T := TX1) (N := 2) (ci := 1) 1 m0_X1_faultAsRow m1_X1_faultAsRow (Nat.le_of_ble_eq_true rfl) (cC_40 X z0) rfl (Nat.le_of_ble_eq_true rfl) rfl rfl dX1_faultAsRow_48 ?_
      refine z_if_ne S (tgt := 58) dX1_faultAsRow_51 (by decide) h (fun h => ?_) (fun h => ?_)
      · refine z_iconst (v := (-1)) S dX1_faultAsRow_58 (by decide) ?_
        exact z_iret_r S dX1_faultAsRow_59 h
      · refine z_iconst (v := (nI 0)) S dX1_faultAsRow_54 (by decide) ?_
        refine z_goto S (tgt := 59) dX1_faultAsRow_55 (by decide) ?_
        exact z_iret_r S dX1_faultAsRow_59 h
    · refine z_iload_n S 1 dX1_faultAsRow_10 rfl rfl ?_
      refine z_bipush (v := (nI 7)) S dX1_faultAsRow_11 (by decide) ?_
      refine z_icmp_ge S (tgt := 39) dX1_faultAsRow_13 (by decide) h (fun h => ?_) (fun h => ?_)
      · refine z_iload_n S 1 dX1_faultAsRow_39 rfl rfl ?_
        exact z_iret_r S dX1_faultAsRow_40 h
      · refine z_aload_n S 0 dX1_faultAsRow_16 rfl rfl ?_
        refine z_get S (C := RX1) (T := TX1) (N := 2) (ci := 1) 0 m2_X1_faultAsRow m1_X1_faultAsRow (Nat.le_of_ble_eq_true rfl) (cC_40 X z0) rfl (Nat.le_of_ble_eq_true rfl) rfl rfl dX1_faultAsRow_17 ?_
        refine z_iload_n S 1 dX1_faultAsRow_20 rfl rfl ?_
        refine z_iald S (Nat.le_of_ble_eq_true rfl) (cC_41 X z0) dX1_faultAsRow_21 h (fun v_21 h => ?_)
        obtain ⟨v_22, hv_22, h⟩ := ob_some h
        refine z_callSN_r (As := [.int v_21]) S (c_X3_isLetter l D X _ _ S.2.2.1 hv_22) ⟨va_cnB 1 S.1.2.2.2.2 gX1_faultAsRow_X3_isLetter_n19 rfl rfl rfl S.2.1.2.1 (S.1.2.2.2.2 _ m4_X1_faultAsRow) hd_X3_isLetter ⟨Nat.le_of_ble_eq_true rfl, Nat.le_of_ble_eq_true rfl⟩, S.1.2.2.2.2 _ m3_X1_faultAsRow, trivial⟩ rfl rfl (Nat.le_of_ble_eq_true rfl) rfl dX1_faultAsRow_22 ?_
        refine z_if_ne S (tgt := 41) dX1_faultAsRow_25 (by decide) h (fun h => ?_) (fun h => ?_)
        · refine z_iinc S 1 [(1, .int (x1 + nI 1)), (0, .ref (X.1 40))] dX1_faultAsRow_41 rfl rfl (Nat.le_of_ble_eq_true rfl) rfl ?_
          refine z_goto S (tgt := 2) dX1_faultAsRow_44 (by decide) ?_
          exact z_lv [1, 0] rfl (ih _ h)
        · refine z_aload_n S 0 dX1_faultAsRow_28 rfl rfl ?_
          refine z_get S (C := RX1) (T := TX1) (N := 2) (ci := 1) 0 m2_X1_faultAsRow m1_X1_faultAsRow (Nat.le_of_ble_eq_true rfl) (cC_40 X z0) rfl (Nat.le_of_ble_eq_true rfl) rfl rfl dX1_faultAsRow_29 ?_
          refine z_iload_n S 1 dX1_faultAsRow_32 rfl rfl ?_
          refine z_iald S (Nat.le_of_ble_eq_true rfl) (cC_41 X z0) dX1_faultAsRow_33 h (fun v_33 h => ?_)
          refine z_bipush (v := (nI 46)) S dX1_faultAsRow_34 (by decide) ?_
          refine z_icmp_eq S (tgt := 41) dX1_faultAsRow_36 (by decide) h (fun h => ?_) (fun h => ?_)
          · refine z_iinc S 1 [(1, .int (x1 + nI 1)), (0, .ref (X.1 40))] dX1_faultAsRow_41 rfl rfl (Nat.le_of_ble_eq_true rfl) rfl ?_
            refine z_goto S (tgt := 2) dX1_faultAsRow_44 (by decide) ?_
            exact z_lv [1, 0] rfl (ih _ h)
          · refine z_iload_n S 1 dX1_faultAsRow_39 rfl rfl ?_
            exact z_iret_r S dX1_faultAsRow_40 h
set_option maxHeartbeats 4000000 in
set_option maxRecDepth 100000 in
theorem c_X1_faultAsRow (l : Launch) (D : va_G) (X : zE) (z0 : zV) (hinj : zw_inj 44 X.1) {r : Int32} (h : f_X1_faultAsRow z0 = some r) : zMr l yX1_faultAsRow wsX1_faultAsRow (zrm 1 20) D 44 X (zc shC X z0) [.ref (X.1 40)] (some (.int r)) := by
  rw [f_X1_faultAsRow] at h
  refine z_start_r (cc := cX1_faultAsRow) (maxL := 2) (ret := (some .int)) (by decide) rfl (Nat.le_of_ble_eq_true rfl) hinj ?_
  intro p e s m below meth c S
  refine z_iconst (v := (nI 0)) S dX1_faultAsRow_0 (by decide) ?_
  refine z_istore_n S [(1, .int (nI 0)), (0, .ref (X.1 40))] dX1_faultAsRow_1 rfl (Nat.le_of_ble_eq_true rfl) rfl ?_
  exact z_lv [1, 0] rfl (tl_X1_faultAsRow_2 S _ _ h)
/-! SoldLetters$State.copyFrom: a walk -/
theorem hd_X0_copyFrom : yX0_copyFrom.cls = RX0 ∧ yX0_copyFrom.cls ≠ "java/lang/invoke/MethodHandle" ∧ yX0_copyFrom.cls ≠ "java/lang/invoke/VarHandle" ∧ (parseMethodDescriptor yX0_copyFrom.desc).map (fun d => d.parameters.length) = some 1 := by decide +kernel
theorem m0_X0_copyFrom : Cond.fieldLink RX0 9 RX0 (TX0 0).2.1 (TX0 0).2.2.1 ∈ wsX0_copyFrom := by decide +kernel
theorem m1_X0_copyFrom : ∀ w ∈ u_ws RX0 TX0 11, w ∈ wsX0_copyFrom := by decide +kernel
theorem m2_X0_copyFrom : Cond.methodLink RX0 38 arraycopyName ∈ wsX0_copyFrom := by decide +kernel
theorem m3_X0_copyFrom : Cond.native arraycopyName ∈ wsX0_copyFrom := by decide +kernel
theorem m4_X0_copyFrom : Cond.static arraycopyName ∈ wsX0_copyFrom := by decide +kernel
theorem m5_X0_copyFrom : Cond.initialized "java/lang/System" ∈ wsX0_copyFrom := by decide +kernel
theorem m6_X0_copyFrom : Cond.fieldLink RX0 22 RX0 (TX0 3).2.1 (TX0 3).2.2.1 ∈ wsX0_copyFrom := by decide +kernel
theorem m7_X0_copyFrom : Cond.fieldLink RX0 25 RX0 (TX0 4).2.1 (TX0 4).2.2.1 ∈ wsX0_copyFrom := by decide +kernel
theorem m8_X0_copyFrom : Cond.fieldLink RX0 44 RX0 (TX0 5).2.1 (TX0 5).2.2.1 ∈ wsX0_copyFrom := by decide +kernel
theorem m9_X0_copyFrom : Cond.fieldLink RX0 28 RX0 (TX0 6).2.1 (TX0 6).2.2.1 ∈ wsX0_copyFrom := by decide +kernel
theorem m10_X0_copyFrom : Cond.fieldLink RX0 32 RX0 (TX0 7).2.1 (TX0 7).2.2.1 ∈ wsX0_copyFrom := by decide +kernel
theorem m11_X0_copyFrom : Cond.fieldLink RX0 35 RX0 (TX0 8).2.1 (TX0 8).2.2.1 ∈ wsX0_copyFrom := by decide +kernel
theorem m12_X0_copyFrom : Cond.fieldLink RX0 47 RX0 (TX0 9).2.1 (TX0 9).2.2.1 ∈ wsX0_copyFrom := by decide +kernel
theorem m13_X0_copyFrom : Cond.fieldLink RX0 50 RX0 (TX0 10).2.1 (TX0 10).2.2.1 ∈ wsX0_copyFrom := by decide +kernel
theorem m14_X0_copyFrom : Cond.fieldLink RX0 15 RX0 (TX0 1).2.1 (TX0 1).2.2.1 ∈ wsX0_copyFrom := by decide +kernel
theorem m15_X0_copyFrom : Cond.fieldLink RX0 18 RX0 (TX0 2).2.1 (TX0 2).2.2.1 ∈ wsX0_copyFrom := by decide +kernel
set_option maxHeartbeats 4000000 in
set_option maxRecDepth 100000 in
theorem tl_X0_copyFrom_47 {l : Launch} {D : va_G} {X : zE} {p : Program} {e : Env} {s : State} {m : MethodId} {args : Array Value} {below : List Frame} {meth : Method} {c : Code} (S : zS p m meth c cX0_copyFrom 3 none s args wsX0_copyFrom RX0 D 44 X) {z1 : zV} {q0 : Nat} (h_q0 : isSt q0) {q1 : Nat} (h_q1 : isSt q1) : ∀ (n_ : Nat), ∀ (z0 : zV) (x2 : Int32), l_X0_copyFrom_47 q0 q1 n_ z0 x2 = some z1 → Zj true D 44 X p l e (zrm 1 60) s m args below meth c (MQ below (zQw D 44 X (zc shC X z1) none) args s 0 0 (zw_A 44 X.1)) 3 47 [(0, .ref (X.1 q0)), (1, .ref (X.1 q1)), (2, .int x2)] [] (zc shC X z0) := by
  intro n_
  induction n_ with
  | zero =>
    intro z0 x2 h
    cases h
  | succ n_ ih =>
    intro z0 x2 h
    rw [l_X0_copyFrom_47] at h
    refine z_iload_n S 2 dX0_copyFrom_47 rfl rfl ?_
    refine z_bipush (v := (nI 26)) S dX0_copyFrom_48 (by decide) ?_
    refine z_icmp_gt S (tgt := 83) dX0_copyFrom_50 (by decide) h (fun h => ?_) (fun h => ?_)
    · refine z_aload_n S 0 dX0_copyFrom_83 rfl rfl ?_
      refine z_aload_n S 1 dX0_copyFrom_84 rfl rfl ?_
      refine z_get S (C := RX0) (T := TX0) (N := 11) (ci := 0) 5 m8_X0_copyFrom m1_X0_copyFrom (isSt_lt h_q1) (cV_0 h_q1 X z0) rfl (Nat.le_of_ble_eq_true rfl) rfl rfl dX0_copyFrom_85 ?_
      refine z_put S (C := RX0) (T := TX0) (N := 11) (ci := 0) 5 tyX0_ok nmX0 m8_X0_copyFrom m1_X0_copyFrom (isSt_lt h_q0) (cV_0 h_q0 X z0) rfl (Nat.le_of_ble_eq_true rfl) rfl rfl rfl rfl (Nat.le_of_ble_eq_true rfl) (sV_0 h_q0 X _ _ _) dX0_copyFrom_88 h (fun z_88 h => ?_)
      refine z_aload_n S 0 dX0_copyFrom_91 rfl rfl ?_
      refine z_aload_n S 1 dX0_copyFrom_92 rfl rfl ?_
      refine z_get S (C := RX0) (T := TX0) (N := 11) (ci := 0) 6 m9_X0_copyFrom m1_X0_copyFrom (isSt_lt h_q1) (cV_0 h_q1 X z_88) rfl (Nat.le_of_ble_eq_true rfl) rfl rfl dX0_copyFrom_93 ?_
      refine z_put S (C := RX0) (T := TX0) (N := 11) (ci := 0) 6 tyX0_ok nmX0 m9_X0_copyFrom m1_X0_copyFrom (isSt_lt h_q0) (cV_0 h_q0 X z_88) rfl (Nat.le_of_ble_eq_true rfl) rfl rfl rfl rfl (Nat.le_of_ble_eq_true rfl) (sV_0 h_q0 X _ _ _) dX0_copyFrom_96 h (fun z_96 h => ?_)
      refine z_aload_n S 0 dX0_copyFrom_99 rfl rfl ?_
      refine z_aload_n S 1 dX0_copyFrom_100 rfl rfl ?_
      refine z_get S (C := RX0) (T := TX0) (N := 11) (ci := 0) 7 m10_X0_copyFrom m1_X0_copyFrom (isSt_lt h_q1) (cV_0 h_q1 X z_96) rfl (Nat.le_of_ble_eq_true rfl) rfl rfl dX0_copyFrom_101 ?_
      refine z_put S (C := RX0) (T := TX0) (N := 11) (ci := 0) 7 tyX0_ok nmX0 m10_X0_copyFrom m1_X0_copyFrom (isSt_lt h_q0) (cV_0 h_q0 X z_96) rfl (Nat.le_of_ble_eq_true rfl) rfl rfl rfl rfl (Nat.le_of_ble_eq_true rfl) (sV_0 h_q0 X _ _ _) dX0_copyFrom_104 h (fun z_104 h => ?_)
      refine z_aload_n S 0 dX0_copyFrom_107 rfl rfl ?_
      refine z_aload_n S 1 dX0_copyFrom_108 rfl rfl ?_
      refine z_get S (C := RX0) (T := TX0) (N := 11) (ci := 0) 8 m11_X0_copyFrom m1_X0_copyFrom (isSt_lt h_q1) (cV_0 h_q1 X z_104) rfl (Nat.le_of_ble_eq_true rfl) rfl rfl dX0_copyFrom_109 ?_
      refine z_put S (C := RX0) (T := TX0) (N := 11) (ci := 0) 8 tyX0_ok nmX0 m11_X0_copyFrom m1_X0_copyFrom (isSt_lt h_q0) (cV_0 h_q0 X z_104) rfl (Nat.le_of_ble_eq_true rfl) rfl rfl rfl rfl (Nat.le_of_ble_eq_true rfl) (sV_0 h_q0 X _ _ _) dX0_copyFrom_112 h (fun z_112 h => ?_)
      refine z_aload_n S 0 dX0_copyFrom_115 rfl rfl ?_
      refine z_aload_n S 1 dX0_copyFrom_116 rfl rfl ?_
      refine z_get S (C := RX0) (T := TX0) (N := 11) (ci := 0) 9 m12_X0_copyFrom m1_X0_copyFrom (isSt_lt h_q1) (cV_0 h_q1 X z_112) rfl (Nat.le_of_ble_eq_true rfl) rfl rfl dX0_copyFrom_117 ?_
      refine z_put S (C := RX0) (T := TX0) (N := 11) (ci := 0) 9 tyX0_ok nmX0 m12_X0_copyFrom m1_X0_copyFrom (isSt_lt h_q0) (cV_0 h_q0 X z_112) rfl (Nat.le_of_ble_eq_true rfl) rfl rfl rfl rfl (Nat.le_of_ble_eq_true rfl) (sV_0 h_q0 X _ _ _) dX0_copyFrom_120 h (fun z_120 h => ?_)
      refine z_aload_n S 0 dX0_copyFrom_123 rfl rfl ?_
      refine z_aload_n S 1 dX0_copyFrom_124 rfl rfl ?_
      refine z_get S (C := RX0) (T := TX0) (N := 11) (ci := 0) 10 m13_X0_copyFrom m1_X0_copyFrom (isSt_lt h_q1) (cV_0 h_q1 X z_120) rfl (Nat.le_of_ble_eq_true rfl) rfl rfl dX0_copyFrom_125 ?_
      refine z_put S (C := RX0) (T := TX0) (N := 11) (ci := 0) 10 tyX0_ok nmX0 m13_X0_copyFrom m1_X0_copyFrom (isSt_lt h_q0) (cV_0 h_q0 X z_120) rfl (Nat.le_of_ble_eq_true rfl) rfl rfl rfl rfl (Nat.le_of_ble_eq_true rfl) (sV_0 h_q0 X _ _ _) dX0_copyFrom_128 h (fun z_128 h => ?_)
      exact z_vret_w S dX0_copyFrom_131 h
    · refine z_aload_n S 0 dX0_copyFrom_53 rfl rfl ?_
      refine z_get S (C := RX0) (T := TX0) (N := 11) (ci := 0) 1 m14_X0_copyFrom m1_X0_copyFrom (isSt_lt h_q0) (cV_0 h_q0 X z0) rfl (Nat.le_of_ble_eq_true rfl) rfl rfl dX0_copyFrom_54 ?_
      refine z_iload_n S 2 dX0_copyFrom_57 rfl rfl ?_
      refine z_aload_n S 1 dX0_copyFrom_58 rfl rfl ?_
      refine z_get S (C := RX0) (T := TX0) (N := 11) (ci := 0) 1 m14_X0_copyFrom m1_X0_copyFrom (isSt_lt h_q1) (cV_0 h_q1 X z0) rfl (Nat.le_of_ble_eq_true rfl) rfl rfl dX0_copyFrom_59 ?_
      refine z_iload_n S 2 dX0_copyFrom_62 rfl rfl ?_
      refine z_iald S (isSt_44 h_q1 (Nat.le_of_ble_eq_true rfl)) (cV_2 h_q1 X z0) dX0_copyFrom_63 h (fun v_63 h => ?_)
      refine z_iast S (isSt_44 h_q0 (Nat.le_of_ble_eq_true rfl)) (fun _ => sV_2 h_q0 X _ _ _) dX0_copyFrom_64 h (fun z_64 h => ?_)
      refine z_aload_n S 0 dX0_copyFrom_65 rfl rfl ?_
      refine z_get S (C := RX0) (T := TX0) (N := 11) (ci := 0) 2 m15_X0_copyFrom m1_X0_copyFrom (isSt_lt h_q0) (cV_0 h_q0 X z_64) rfl (Nat.le_of_ble_eq_true rfl) rfl rfl dX0_copyFrom_66 ?_
      refine z_iload_n S 2 dX0_copyFrom_69 rfl rfl ?_
      refine z_aload_n S 1 dX0_copyFrom_70 rfl rfl ?_
      refine z_get S (C := RX0) (T := TX0) (N := 11) (ci := 0) 2 m15_X0_copyFrom m1_X0_copyFrom (isSt_lt h_q1) (cV_0 h_q1 X z_64) rfl (Nat.le_of_ble_eq_true rfl) rfl rfl dX0_copyFrom_71 ?_
      refine z_iload_n S 2 dX0_copyFrom_74 rfl rfl ?_
      refine z_zald S (isSt_44 h_q1 (Nat.le_of_ble_eq_true rfl)) (cV_3 h_q1 X z_64) dX0_copyFrom_75 h (fun v_75 h => ?_)
      refine z_zast S (isSt_44 h_q0 (Nat.le_of_ble_eq_true rfl)) (fun _ => sV_3 h_q0 X _ _ _) dX0_copyFrom_76 h (fun z_76 h => ?_)
      refine z_iinc S 2 [(2, .int (x2 + nI 1)), (0, .ref (X.1 q0)), (1, .ref (X.1 q1))] dX0_copyFrom_77 rfl rfl (Nat.le_of_ble_eq_true rfl) rfl ?_
      refine z_goto S (tgt := 47) dX0_copyFrom_80 (by decide) ?_
      exact z_lv [1, 2, 0] rfl (ih _ _ h)
set_option maxHeartbeats 4000000 in
set_option maxRecDepth 100000 in
theorem c_X0_copyFrom (l : Launch) (D : va_G) (X : zE) (z0 : zV) (q0 : Nat) (q1 : Nat) (hinj : zw_inj 44 X.1) {z1 : zV} (h : f_X0_copyFrom z0 q0 q1 = some z1) : zMw l yX0_copyFrom wsX0_copyFrom (zrm 1 60) D 44 X (zc shC X z0) [.ref (X.1 q0), .ref (X.1 q1)] none (zc shC X z1) := by
  rw [f_X0_copyFrom] at h
  obtain ⟨h_q0, h⟩ := gSt_some h
  obtain ⟨h_q1, h⟩ := gSt_some h
  refine z_start_w (cc := cX0_copyFrom) (maxL := 3) (ret := none) (by decide) rfl (Nat.le_of_ble_eq_true rfl) hinj ?_
  intro p e s m below meth c S
  refine z_aload_n S 1 dX0_copyFrom_0 rfl rfl ?_
  refine z_get S (C := RX0) (T := TX0) (N := 11) (ci := 0) 0 m0_X0_copyFrom m1_X0_copyFrom (isSt_lt h_q1) (cV_0 h_q1 X z0) rfl (Nat.le_of_ble_eq_true rfl) rfl rfl dX0_copyFrom_1 ?_
  refine z_iconst (v := (nI 0)) S dX0_copyFrom_4 (by decide) ?_
  refine z_aload_n S 0 dX0_copyFrom_5 rfl rfl ?_
  refine z_get S (C := RX0) (T := TX0) (N := 11) (ci := 0) 0 m0_X0_copyFrom m1_X0_copyFrom (isSt_lt h_q0) (cV_0 h_q0 X z0) rfl (Nat.le_of_ble_eq_true rfl) rfl rfl dX0_copyFrom_6 ?_
  refine z_iconst (v := (nI 0)) S dX0_copyFrom_9 (by decide) ?_
  refine z_bipush (v := (nI 49)) S dX0_copyFrom_10 (by decide) ?_
  refine z_copy S (isSt_44 h_q1 (Nat.le_of_ble_eq_true rfl)) (isSt_44 h_q0 (Nat.le_of_ble_eq_true rfl)) (cV_1 h_q1 X z0) (fun _ => sV_1 h_q0 X _ _ _) rfl m2_X0_copyFrom m3_X0_copyFrom m4_X0_copyFrom m5_X0_copyFrom (Nat.le_of_ble_eq_true rfl) (Nat.le_of_ble_eq_true rfl) dX0_copyFrom_12 h (fun z_12 h => ?_)
  refine z_aload_n S 1 dX0_copyFrom_15 rfl rfl ?_
  refine z_get S (C := RX0) (T := TX0) (N := 11) (ci := 0) 3 m6_X0_copyFrom m1_X0_copyFrom (isSt_lt h_q1) (cV_0 h_q1 X z_12) rfl (Nat.le_of_ble_eq_true rfl) rfl rfl dX0_copyFrom_16 ?_
  refine z_iconst (v := (nI 0)) S dX0_copyFrom_19 (by decide) ?_
  refine z_aload_n S 0 dX0_copyFrom_20 rfl rfl ?_
  refine z_get S (C := RX0) (T := TX0) (N := 11) (ci := 0) 3 m6_X0_copyFrom m1_X0_copyFrom (isSt_lt h_q0) (cV_0 h_q0 X z_12) rfl (Nat.le_of_ble_eq_true rfl) rfl rfl dX0_copyFrom_21 ?_
  refine z_iconst (v := (nI 0)) S dX0_copyFrom_24 (by decide) ?_
  refine z_bipush (v := (nI 84)) S dX0_copyFrom_25 (by decide) ?_
  refine z_copy S (isSt_44 h_q1 (Nat.le_of_ble_eq_true rfl)) (isSt_44 h_q0 (Nat.le_of_ble_eq_true rfl)) (cV_4 h_q1 X z_12) (fun _ => sV_4 h_q0 X _ _ _) rfl m2_X0_copyFrom m3_X0_copyFrom m4_X0_copyFrom m5_X0_copyFrom (Nat.le_of_ble_eq_true rfl) (Nat.le_of_ble_eq_true rfl) dX0_copyFrom_27 h (fun z_27 h => ?_)
  refine z_aload_n S 1 dX0_copyFrom_30 rfl rfl ?_
  refine z_get S (C := RX0) (T := TX0) (N := 11) (ci := 0) 4 m7_X0_copyFrom m1_X0_copyFrom (isSt_lt h_q1) (cV_0 h_q1 X z_27) rfl (Nat.le_of_ble_eq_true rfl) rfl rfl dX0_copyFrom_31 ?_
  refine z_iconst (v := (nI 0)) S dX0_copyFrom_34 (by decide) ?_
  refine z_aload_n S 0 dX0_copyFrom_35 rfl rfl ?_
  refine z_get S (C := RX0) (T := TX0) (N := 11) (ci := 0) 4 m7_X0_copyFrom m1_X0_copyFrom (isSt_lt h_q0) (cV_0 h_q0 X z_27) rfl (Nat.le_of_ble_eq_true rfl) rfl rfl dX0_copyFrom_36 ?_
  refine z_iconst (v := (nI 0)) S dX0_copyFrom_39 (by decide) ?_
  refine z_bipush (v := (nI 12)) S dX0_copyFrom_40 (by decide) ?_
  refine z_copy S (isSt_44 h_q1 (Nat.le_of_ble_eq_true rfl)) (isSt_44 h_q0 (Nat.le_of_ble_eq_true rfl)) (cV_5 h_q1 X z_27) (fun _ => sV_5 h_q0 X _ _ _) rfl m2_X0_copyFrom m3_X0_copyFrom m4_X0_copyFrom m5_X0_copyFrom (Nat.le_of_ble_eq_true rfl) (Nat.le_of_ble_eq_true rfl) dX0_copyFrom_42 h (fun z_42 h => ?_)
  refine z_iconst (v := (nI 1)) S dX0_copyFrom_45 (by decide) ?_
  refine z_istore_n S [(2, .int (nI 1)), (0, .ref (X.1 q0)), (1, .ref (X.1 q1))] dX0_copyFrom_46 rfl (Nat.le_of_ble_eq_true rfl) rfl ?_
  exact z_lv [1, 2, 0] rfl (tl_X0_copyFrom_47 S h_q0 h_q1 _ _ _ h)
theorem copy_guard {z0 z1 : zV} {q0 q1 : Nat} (h : f_X0_copyFrom z0 q0 q1 = some z1) : isSt q0 := by
  rw [f_X0_copyFrom] at h
  exact (gSt_some h).1
/-! SoldLetters.remember: a walk -/
theorem hd_X3_remember : yX3_remember.cls = RX3 ∧ yX3_remember.cls ≠ "java/lang/invoke/MethodHandle" ∧ yX3_remember.cls ≠ "java/lang/invoke/VarHandle" ∧ (parseMethodDescriptor yX3_remember.desc).map (fun d => d.parameters.length) = some 0 := by decide +kernel
theorem m0_X3_remember : Cond.fieldLink RX3 184 RX3 (TX3 5).2.1 (TX3 5).2.2.1 ∈ wsX3_remember := by decide +kernel
theorem m1_X3_remember : ∀ w ∈ u_ws RX3 TX3 7, w ∈ wsX3_remember := by decide +kernel
theorem m2_X3_remember : Cond.fieldLink RX3 30 RX3 (TX3 3).2.1 (TX3 3).2.2.1 ∈ wsX3_remember := by decide +kernel
theorem m3_X3_remember : Cond.fieldLink RX3 12 RX3 (TX3 0).2.1 (TX3 0).2.2.1 ∈ wsX3_remember := by decide +kernel
set_option maxHeartbeats 4000000 in
set_option maxRecDepth 100000 in
theorem tl_X3_remember_17 {l : Launch} {D : va_G} {X : zE} {p : Program} {e : Env} {s : State} {m : MethodId} {args : Array Value} {below : List Frame} {meth : Method} {c : Code} (S : zS p m meth c cX3_remember 3 none s args wsX3_remember RX3 D 44 X) {z1 : zV} : ∀ (n_ : Nat), ∀ (z0 : zV) (q_1 : Nat) (x2 : Int32), l_X3_remember_17 n_ z0 q_1 x2 = some z1 → Zj true D 44 X p l e (zrm 2 82) s m args below meth c (MQ below (zQw D 44 X (zc shC X z1) none) args s 0 0 (zw_A 44 X.1)) 3 17 [(0, .ref (X.1 42)), (1, .ref (X.1 q_1)), (2, .int x2)] [] (zc shC X z0) := by
  intro n_
  induction n_ with
  | zero =>
    intro z0 q_1 x2 h
    cases h
  | succ n_ ih =>
    intro z0 q_1 x2 h
    rw [l_X3_remember_17] at h
    refine z_iload_n S 2 dX3_remember_17 rfl rfl ?_
    refine z_iconst (v := (nI 4)) S dX3_remember_18 (by decide) ?_
    refine z_icmp_ge S (tgt := 42) dX3_remember_19 (by decide) h (fun h => ?_) (fun h => ?_)
    · refine z_aload_n S 0 dX3_remember_42 rfl rfl ?_
      refine z_get S (C := RX3) (T := TX3) (N := 7) (ci := 3) 3 m2_X3_remember m1_X3_remember (Nat.le_of_ble_eq_true rfl) (cC_42 X z0) rfl (Nat.le_of_ble_eq_true rfl) rfl rfl dX3_remember_43 ?_
      refine z_iconst (v := (nI 3)) S dX3_remember_46 (by decide) ?_
      refine z_aload_n S 1 dX3_remember_47 rfl rfl ?_
      refine z_aast S (Nat.le_of_ble_eq_true rfl) (cC_43 X z0) (fun hu => ⟨isSt_lt hu, cV_0 hu X z0⟩) dX3_remember_48 h (fun j => cC_sP X z0 _ j) (fun z_48 h => ?_)
      refine z_aload_n S 0 dX3_remember_49 rfl rfl ?_
      refine z_dup S dX3_remember_50 rfl ?_
      refine z_get S (C := RX3) (T := TX3) (N := 7) (ci := 3) 5 m0_X3_remember m1_X3_remember (Nat.le_of_ble_eq_true rfl) (cC_42 X z_48) rfl (Nat.le_of_ble_eq_true rfl) rfl rfl dX3_remember_51 ?_
      refine z_iconst (v := (nI 1)) S dX3_remember_54 (by decide) ?_
      refine z_isub S dX3_remember_55 ?_
      refine z_put S (C := RX3) (T := TX3) (N := 7) (ci := 3) 5 tyX3_ok nmX3 m0_X3_remember m1_X3_remember (Nat.le_of_ble_eq_true rfl) (cC_42 X z_48) rfl (Nat.le_of_ble_eq_true rfl) rfl rfl rfl rfl (Nat.le_of_ble_eq_true rfl) rfl dX3_remember_56 h (fun z_56 h => ?_)
      refine z_aload_n S 0 dX3_remember_59 rfl rfl ?_
      refine z_get S (C := RX3) (T := TX3) (N := 7) (ci := 3) 3 m2_X3_remember m1_X3_remember (Nat.le_of_ble_eq_true rfl) (cC_42 X z_56) rfl (Nat.le_of_ble_eq_true rfl) rfl rfl dX3_remember_60 ?_
      refine z_aload_n S 0 dX3_remember_63 rfl rfl ?_
      refine z_get S (C := RX3) (T := TX3) (N := 7) (ci := 3) 5 m0_X3_remember m1_X3_remember (Nat.le_of_ble_eq_true rfl) (cC_42 X z_56) rfl (Nat.le_of_ble_eq_true rfl) rfl rfl dX3_remember_64 ?_
      refine z_aald S (Nat.le_of_ble_eq_true rfl) (cC_43 X z_56) dX3_remember_67 h (fun q_67 h => ?_)
      refine z_aload_n S 0 dX3_remember_68 rfl rfl ?_
      refine z_get S (C := RX3) (T := TX3) (N := 7) (ci := 3) 0 m3_X3_remember m1_X3_remember (Nat.le_of_ble_eq_true rfl) (cC_42 X z_56) rfl (Nat.le_of_ble_eq_true rfl) rfl rfl dX3_remember_69 ?_
      obtain ⟨z_72, hv_72, h⟩ := ob_some h
      have h_q_67 := copy_guard hv_72
      refine z_callV_w (As := [.ref (X.1 0)]) S (c_X0_copyFrom l D X _ _ _ S.2.2.1 hv_72) (cwV 1 S.1.2.2.2.2 gX3_remember_X0_copyFrom rfl rfl rfl hd_X0_copyFrom ⟨Nat.le_of_ble_eq_true rfl, Nat.le_of_ble_eq_true rfl⟩) (isSt_lt h_q_67) (cV_0 h_q_67 X z_56) rfl rfl rfl (Nat.le_of_ble_eq_true rfl) rfl dX3_remember_72 ?_
      refine z_aload_n S 0 dX3_remember_75 rfl rfl ?_
      refine z_dup S dX3_remember_76 rfl ?_
      refine z_get S (C := RX3) (T := TX3) (N := 7) (ci := 3) 5 m0_X3_remember m1_X3_remember (Nat.le_of_ble_eq_true rfl) (cC_42 X z_72) rfl (Nat.le_of_ble_eq_true rfl) rfl rfl dX3_remember_77 ?_
      refine z_iconst (v := (nI 1)) S dX3_remember_80 (by decide) ?_
      refine z_iadd S dX3_remember_81 ?_
      refine z_put S (C := RX3) (T := TX3) (N := 7) (ci := 3) 5 tyX3_ok nmX3 m0_X3_remember m1_X3_remember (Nat.le_of_ble_eq_true rfl) (cC_42 X z_72) rfl (Nat.le_of_ble_eq_true rfl) rfl rfl rfl rfl (Nat.le_of_ble_eq_true rfl) rfl dX3_remember_82 h (fun z_82 h => ?_)
      exact z_vret_w S dX3_remember_85 h
    · refine z_aload_n S 0 dX3_remember_22 rfl rfl ?_
      refine z_get S (C := RX3) (T := TX3) (N := 7) (ci := 3) 3 m2_X3_remember m1_X3_remember (Nat.le_of_ble_eq_true rfl) (cC_42 X z0) rfl (Nat.le_of_ble_eq_true rfl) rfl rfl dX3_remember_23 ?_
      refine z_iload_n S 2 dX3_remember_26 rfl rfl ?_
      refine z_iconst (v := (nI 1)) S dX3_remember_27 (by decide) ?_
      refine z_isub S dX3_remember_28 ?_
      refine z_aload_n S 0 dX3_remember_29 rfl rfl ?_
      refine z_get S (C := RX3) (T := TX3) (N := 7) (ci := 3) 3 m2_X3_remember m1_X3_remember (Nat.le_of_ble_eq_true rfl) (cC_42 X z0) rfl (Nat.le_of_ble_eq_true rfl) rfl rfl dX3_remember_30 ?_
      refine z_iload_n S 2 dX3_remember_33 rfl rfl ?_
      refine z_aald S (Nat.le_of_ble_eq_true rfl) (cC_43 X z0) dX3_remember_34 h (fun q_34 h => ?_)
      refine z_aast S (Nat.le_of_ble_eq_true rfl) (cC_43 X z0) (fun hu => ⟨isSt_lt hu, cV_0 hu X z0⟩) dX3_remember_35 h (fun j => cC_sP X z0 _ j) (fun z_35 h => ?_)
      refine z_iinc S 2 [(2, .int (x2 + nI 1)), (0, .ref (X.1 42)), (1, .ref (X.1 q_1))] dX3_remember_36 rfl rfl (Nat.le_of_ble_eq_true rfl) rfl ?_
      refine z_goto S (tgt := 17) dX3_remember_39 (by decide) ?_
      exact z_lv [1, 2, 0] rfl (ih _ _ _ h)
set_option maxHeartbeats 4000000 in
set_option maxRecDepth 100000 in
theorem c_X3_remember (l : Launch) (D : va_G) (X : zE) (z0 : zV) (hinj : zw_inj 44 X.1) {z1 : zV} (h : f_X3_remember z0 = some z1) : zMw l yX3_remember wsX3_remember (zrm 2 82) D 44 X (zc shC X z0) [.ref (X.1 42)] none (zc shC X z1) := by
  rw [f_X3_remember] at h
  refine z_start_w (cc := cX3_remember) (maxL := 3) (ret := none) (by decide) rfl (Nat.le_of_ble_eq_true rfl) hinj ?_
  intro p e s m below meth c S
  refine z_aload_n S 0 dX3_remember_0 rfl rfl ?_
  refine z_get S (C := RX3) (T := TX3) (N := 7) (ci := 3) 5 m0_X3_remember m1_X3_remember (Nat.le_of_ble_eq_true rfl) (cC_42 X z0) rfl (Nat.le_of_ble_eq_true rfl) rfl rfl dX3_remember_1 ?_
  refine z_iconst (v := (nI 4)) S dX3_remember_4 (by decide) ?_
  refine z_icmp_ne S (tgt := 59) dX3_remember_5 (by decide) h (fun h => ?_) (fun h => ?_)
  · refine z_aload_n S 0 dX3_remember_59 rfl rfl ?_
    refine z_get S (C := RX3) (T := TX3) (N := 7) (ci := 3) 3 m2_X3_remember m1_X3_remember (Nat.le_of_ble_eq_true rfl) (cC_42 X z0) rfl (Nat.le_of_ble_eq_true rfl) rfl rfl dX3_remember_60 ?_
    refine z_aload_n S 0 dX3_remember_63 rfl rfl ?_
    refine z_get S (C := RX3) (T := TX3) (N := 7) (ci := 3) 5 m0_X3_remember m1_X3_remember (Nat.le_of_ble_eq_true rfl) (cC_42 X z0) rfl (Nat.le_of_ble_eq_true rfl) rfl rfl dX3_remember_64 ?_
    refine z_aald S (Nat.le_of_ble_eq_true rfl) (cC_43 X z0) dX3_remember_67 h (fun q_67 h => ?_)
    refine z_aload_n S 0 dX3_remember_68 rfl rfl ?_
    refine z_get S (C := RX3) (T := TX3) (N := 7) (ci := 3) 0 m3_X3_remember m1_X3_remember (Nat.le_of_ble_eq_true rfl) (cC_42 X z0) rfl (Nat.le_of_ble_eq_true rfl) rfl rfl dX3_remember_69 ?_
    obtain ⟨z_72, hv_72, h⟩ := ob_some h
    have h_q_67 := copy_guard hv_72
    refine z_callV_w (As := [.ref (X.1 0)]) S (c_X0_copyFrom l D X _ _ _ S.2.2.1 hv_72) (cwV 1 S.1.2.2.2.2 gX3_remember_X0_copyFrom rfl rfl rfl hd_X0_copyFrom ⟨Nat.le_of_ble_eq_true rfl, Nat.le_of_ble_eq_true rfl⟩) (isSt_lt h_q_67) (cV_0 h_q_67 X z0) rfl rfl rfl (Nat.le_of_ble_eq_true rfl) rfl dX3_remember_72 ?_
    refine z_aload_n S 0 dX3_remember_75 rfl rfl ?_
    refine z_dup S dX3_remember_76 rfl ?_
    refine z_get S (C := RX3) (T := TX3) (N := 7) (ci := 3) 5 m0_X3_remember m1_X3_remember (Nat.le_of_ble_eq_true rfl) (cC_42 X z_72) rfl (Nat.le_of_ble_eq_true rfl) rfl rfl dX3_remember_77 ?_
    refine z_iconst (v := (nI 1)) S dX3_remember_80 (by decide) ?_
    refine z_iadd S dX3_remember_81 ?_
    refine z_put S (C := RX3) (T := TX3) (N := 7) (ci := 3) 5 tyX3_ok nmX3 m0_X3_remember m1_X3_remember (Nat.le_of_ble_eq_true rfl) (cC_42 X z_72) rfl (Nat.le_of_ble_eq_true rfl) rfl rfl rfl rfl (Nat.le_of_ble_eq_true rfl) rfl dX3_remember_82 h (fun z_82 h => ?_)
    exact z_vret_w S dX3_remember_85 h
  · refine z_aload_n S 0 dX3_remember_8 rfl rfl ?_
    refine z_get S (C := RX3) (T := TX3) (N := 7) (ci := 3) 3 m2_X3_remember m1_X3_remember (Nat.le_of_ble_eq_true rfl) (cC_42 X z0) rfl (Nat.le_of_ble_eq_true rfl) rfl rfl dX3_remember_9 ?_
    refine z_iconst (v := (nI 0)) S dX3_remember_12 (by decide) ?_
    refine z_aald S (Nat.le_of_ble_eq_true rfl) (cC_43 X z0) dX3_remember_13 h (fun q_13 h => ?_)
    refine z_astore_n S [(1, .ref (X.1 q_13)), (0, .ref (X.1 42))] dX3_remember_14 rfl (Nat.le_of_ble_eq_true rfl) rfl ?_
    refine z_iconst (v := (nI 1)) S dX3_remember_15 (by decide) ?_
    refine z_istore_n S [(2, .int (nI 1)), (1, .ref (X.1 q_13)), (0, .ref (X.1 42))] dX3_remember_16 rfl (Nat.le_of_ble_eq_true rfl) rfl ?_
    exact z_lv [2, 1, 0] rfl (tl_X3_remember_17 S _ _ _ _ h)
/-! SoldLetters$Text.letterInRow: a walk -/
theorem hd_X1_letterInRow : yX1_letterInRow.cls = RX1 ∧ yX1_letterInRow.cls ≠ "java/lang/invoke/MethodHandle" ∧ yX1_letterInRow.cls ≠ "java/lang/invoke/VarHandle" ∧ (parseMethodDescriptor yX1_letterInRow.desc).map (fun d => d.parameters.length) = some 1 := by decide +kernel
theorem m0_X1_letterInRow : Cond.fieldLink RX1 15 RX1 (TX1 1).2.1 (TX1 1).2.2.1 ∈ wsX1_letterInRow := by decide +kernel
theorem m1_X1_letterInRow : ∀ w ∈ u_ws RX1 TX1 2, w ∈ wsX1_letterInRow := by decide +kernel
theorem m2_X1_letterInRow : Cond.fieldLink RX1 9 RX1 (TX1 0).2.1 (TX1 0).2.2.1 ∈ wsX1_letterInRow := by decide +kernel
theorem m3_X1_letterInRow : Cond.static yX3_isLetter ∈ wsX1_letterInRow := by decide +kernel
theorem m4_X1_letterInRow : Cond.initialized RX3 ∈ wsX1_letterInRow := by decide +kernel
set_option maxHeartbeats 4000000 in
set_option maxRecDepth 100000 in
theorem c_X1_letterInRow (l : Launch) (D : va_G) (X : zE) (z0 : zV) (a0 : Int32) (hinj : zw_inj 44 X.1) {r : Int32} (h : f_X1_letterInRow z0 a0 = some r) : zMr l yX1_letterInRow wsX1_letterInRow (zrm 1 20) D 44 X (zc shC X z0) [.ref (X.1 40), .int a0] (some (.int r)) := by
  rw [f_X1_letterInRow] at h
  refine z_start_r (cc := cX1_letterInRow) (maxL := 2) (ret := (some .int)) (by decide) rfl (Nat.le_of_ble_eq_true rfl) hinj ?_
  intro p e s m below meth c S
  refine z_iload_n S 1 dX1_letterInRow_0 rfl rfl ?_
  refine z_aload_n S 0 dX1_letterInRow_1 rfl rfl ?_
  refine z_get S (C := RX1) (T := TX1) (N := 2) (ci := 1) 1 m0_X1_letterInRow m1_X1_letterInRow (Nat.le_of_ble_eq_true rfl) (cC_40 X z0) rfl (Nat.le_of_ble_eq_true rfl) rfl rfl dX1_letterInRow_2 ?_
  refine z_icmp_ge S (tgt := 29) dX1_letterInRow_5 (by decide) h (fun h => ?_) (fun h => ?_)
  · refine z_iconst (v := (nI 0)) S dX1_letterInRow_29 (by decide) ?_
    exact z_iret_r S dX1_letterInRow_30 h
  · refine z_aload_n S 0 dX1_letterInRow_8 rfl rfl ?_
    refine z_get S (C := RX1) (T := TX1) (N := 2) (ci := 1) 0 m2_X1_letterInRow m1_X1_letterInRow (Nat.le_of_ble_eq_true rfl) (cC_40 X z0) rfl (Nat.le_of_ble_eq_true rfl) rfl rfl dX1_letterInRow_9 ?_
    refine z_iload_n S 1 dX1_letterInRow_12 rfl rfl ?_
    refine z_iald S (Nat.le_of_ble_eq_true rfl) (cC_41 X z0) dX1_letterInRow_13 h (fun v_13 h => ?_)
    obtain ⟨v_14, hv_14, h⟩ := ob_some h
    refine z_callSN_r (As := [.int v_13]) S (c_X3_isLetter l D X _ _ S.2.2.1 hv_14) ⟨va_cnB 1 S.1.2.2.2.2 gX1_letterInRow_X3_isLetter_n19 rfl rfl rfl S.2.1.2.1 (S.1.2.2.2.2 _ m4_X1_letterInRow) hd_X3_isLetter ⟨Nat.le_of_ble_eq_true rfl, Nat.le_of_ble_eq_true rfl⟩, S.1.2.2.2.2 _ m3_X1_letterInRow, trivial⟩ rfl rfl (Nat.le_of_ble_eq_true rfl) rfl dX1_letterInRow_14 ?_
    refine z_if_eq S (tgt := 29) dX1_letterInRow_17 (by decide) h (fun h => ?_) (fun h => ?_)
    · refine z_iconst (v := (nI 0)) S dX1_letterInRow_29 (by decide) ?_
      exact z_iret_r S dX1_letterInRow_30 h
    · refine z_aload_n S 0 dX1_letterInRow_20 rfl rfl ?_
      refine z_get S (C := RX1) (T := TX1) (N := 2) (ci := 1) 0 m2_X1_letterInRow m1_X1_letterInRow (Nat.le_of_ble_eq_true rfl) (cC_40 X z0) rfl (Nat.le_of_ble_eq_true rfl) rfl rfl dX1_letterInRow_21 ?_
      refine z_iload_n S 1 dX1_letterInRow_24 rfl rfl ?_
      refine z_iald S (Nat.le_of_ble_eq_true rfl) (cC_41 X z0) dX1_letterInRow_25 h (fun v_25 h => ?_)
      refine z_goto S (tgt := 30) dX1_letterInRow_26 (by decide) ?_
      exact z_iret_r S dX1_letterInRow_30 h
/-! SoldLetters$State.forgetGuesses: a walk -/
theorem hd_X0_forgetGuesses : yX0_forgetGuesses.cls = RX0 ∧ yX0_forgetGuesses.cls ≠ "java/lang/invoke/MethodHandle" ∧ yX0_forgetGuesses.cls ≠ "java/lang/invoke/VarHandle" ∧ (parseMethodDescriptor yX0_forgetGuesses.desc).map (fun d => d.parameters.length) = some 0 := by decide +kernel
theorem m0_X0_forgetGuesses : Cond.fieldLink RX0 15 RX0 (TX0 1).2.1 (TX0 1).2.2.1 ∈ wsX0_forgetGuesses := by decide +kernel
theorem m1_X0_forgetGuesses : ∀ w ∈ u_ws RX0 TX0 11, w ∈ wsX0_forgetGuesses := by decide +kernel
theorem m2_X0_forgetGuesses : Cond.fieldLink RX0 18 RX0 (TX0 2).2.1 (TX0 2).2.2.1 ∈ wsX0_forgetGuesses := by decide +kernel
set_option maxHeartbeats 4000000 in
set_option maxRecDepth 100000 in
theorem tl_X0_forgetGuesses_2 {l : Launch} {D : va_G} {X : zE} {p : Program} {e : Env} {s : State} {m : MethodId} {args : Array Value} {below : List Frame} {meth : Method} {c : Code} (S : zS p m meth c cX0_forgetGuesses 2 none s args wsX0_forgetGuesses RX0 D 44 X) {z1 : zV} : ∀ (n_ : Nat), ∀ (z0 : zV) (x1 : Int32), l_X0_forgetGuesses_2 n_ z0 x1 = some z1 → Zj true D 44 X p l e (zrm 0 0) s m args below meth c (MQ below (zQw D 44 X (zc shC X z1) none) args s 0 0 (zw_A 44 X.1)) 2 2 [(0, .ref (X.1 0)), (1, .int x1)] [] (zc shC X z0) := by
  intro n_
  induction n_ with
  | zero =>
    intro z0 x1 h
    cases h
  | succ n_ ih =>
    intro z0 x1 h
    rw [l_X0_forgetGuesses_2] at h
    refine z_iload_n S 1 dX0_forgetGuesses_2 rfl rfl ?_
    refine z_bipush (v := (nI 26)) S dX0_forgetGuesses_3 (by decide) ?_
    refine z_icmp_gt S (tgt := 28) dX0_forgetGuesses_5 (by decide) h (fun h => ?_) (fun h => ?_)
    · exact z_vret_w S dX0_forgetGuesses_28 h
    · refine z_aload_n S 0 dX0_forgetGuesses_8 rfl rfl ?_
      refine z_get S (C := RX0) (T := TX0) (N := 11) (ci := 0) 1 m0_X0_forgetGuesses m1_X0_forgetGuesses (Nat.le_of_ble_eq_true rfl) (cC_0 X z0) rfl (Nat.le_of_ble_eq_true rfl) rfl rfl dX0_forgetGuesses_9 ?_
      refine z_iload_n S 1 dX0_forgetGuesses_12 rfl rfl ?_
      refine z_iconst (v := (nI 0)) S dX0_forgetGuesses_13 (by decide) ?_
      refine z_iast S (Nat.le_of_ble_eq_true rfl) (fun _ => rfl) dX0_forgetGuesses_14 h (fun z_14 h => ?_)
      refine z_aload_n S 0 dX0_forgetGuesses_15 rfl rfl ?_
      refine z_get S (C := RX0) (T := TX0) (N := 11) (ci := 0) 2 m2_X0_forgetGuesses m1_X0_forgetGuesses (Nat.le_of_ble_eq_true rfl) (cC_0 X z_14) rfl (Nat.le_of_ble_eq_true rfl) rfl rfl dX0_forgetGuesses_16 ?_
      refine z_iload_n S 1 dX0_forgetGuesses_19 rfl rfl ?_
      refine z_iconst (v := (nI 0)) S dX0_forgetGuesses_20 (by decide) ?_
      refine z_zast S (Nat.le_of_ble_eq_true rfl) (fun _ => rfl) dX0_forgetGuesses_21 h (fun z_21 h => ?_)
      refine z_iinc S 1 [(1, .int (x1 + nI 1)), (0, .ref (X.1 0))] dX0_forgetGuesses_22 rfl rfl (Nat.le_of_ble_eq_true rfl) rfl ?_
      refine z_goto S (tgt := 2) dX0_forgetGuesses_25 (by decide) ?_
      exact z_lv [1, 0] rfl (ih _ _ h)
set_option maxHeartbeats 4000000 in
set_option maxRecDepth 100000 in
theorem c_X0_forgetGuesses (l : Launch) (D : va_G) (X : zE) (z0 : zV) (hinj : zw_inj 44 X.1) {z1 : zV} (h : f_X0_forgetGuesses z0 = some z1) : zMw l yX0_forgetGuesses wsX0_forgetGuesses (zrm 0 0) D 44 X (zc shC X z0) [.ref (X.1 0)] none (zc shC X z1) := by
  rw [f_X0_forgetGuesses] at h
  refine z_start_w (cc := cX0_forgetGuesses) (maxL := 2) (ret := none) (by decide) rfl (Nat.le_of_ble_eq_true rfl) hinj ?_
  intro p e s m below meth c S
  refine z_iconst (v := (nI 1)) S dX0_forgetGuesses_0 (by decide) ?_
  refine z_istore_n S [(1, .int (nI 1)), (0, .ref (X.1 0))] dX0_forgetGuesses_1 rfl (Nat.le_of_ble_eq_true rfl) rfl ?_
  exact z_lv [1, 0] rfl (tl_X0_forgetGuesses_2 S _ _ _ h)
/-! SoldLetters$Words.append: a walk -/
theorem hd_X2_append : yX2_append.cls = RX2 ∧ yX2_append.cls ≠ "java/lang/invoke/MethodHandle" ∧ yX2_append.cls ≠ "java/lang/invoke/VarHandle" ∧ (parseMethodDescriptor yX2_append.desc).map (fun d => d.parameters.length) = some 3 := by decide +kernel
theorem m0_X2_append : Cond.fieldLink RX2 21 RX2 (TX2 3).2.1 (TX2 3).2.2.1 ∈ wsX2_append := by decide +kernel
theorem m1_X2_append : ∀ w ∈ u_ws RX2 TX2 4, w ∈ wsX2_append := by decide +kernel
theorem m2_X2_append : Cond.fieldLink RX2 9 RX2 (TX2 0).2.1 (TX2 0).2.2.1 ∈ wsX2_append := by decide +kernel
theorem m3_X2_append : Cond.fieldLink RX2 15 RX2 (TX2 1).2.1 (TX2 1).2.2.1 ∈ wsX2_append := by decide +kernel
theorem m4_X2_append : Cond.fieldLink RX2 18 RX2 (TX2 2).2.1 (TX2 2).2.2.1 ∈ wsX2_append := by decide +kernel
set_option maxHeartbeats 4000000 in
set_option maxRecDepth 100000 in
theorem c_X2_append (l : Launch) (D : va_G) (X : zE) (z0 : zV) (a0 : Int32) (a1 : Int32) (a2 : Int32) (hinj : zw_inj 44 X.1) {z1 : zV} (h : f_X2_append z0 a0 a1 a2 = some z1) : zMw l yX2_append wsX2_append (zrm 0 0) D 44 X (zc shC X z0) [.ref (X.1 36), .int a0, .int a1, .int a2] none (zc shC X z1) := by
  rw [f_X2_append] at h
  refine z_start_w (cc := cX2_append) (maxL := 4) (ret := none) (by decide) rfl (Nat.le_of_ble_eq_true rfl) hinj ?_
  intro p e s m below meth c S
  refine z_iload_n S 2 dX2_append_0 rfl rfl ?_
  refine z_iconst (v := (nI 2)) S dX2_append_1 (by decide) ?_
  refine z_icmp_lt S (tgt := 14) dX2_append_2 (by decide) h (fun h => ?_) (fun h => ?_)
  · exact z_vret_w S dX2_append_14 h
  · refine z_aload_n S 0 dX2_append_5 rfl rfl ?_
    refine z_get S (C := RX2) (T := TX2) (N := 4) (ci := 2) 3 m0_X2_append m1_X2_append (Nat.le_of_ble_eq_true rfl) (cC_36 X z0) rfl (Nat.le_of_ble_eq_true rfl) rfl rfl dX2_append_6 ?_
    refine z_bipush (v := (nI 28)) S dX2_append_9 (by decide) ?_
    refine z_icmp_lt S (tgt := 15) dX2_append_11 (by decide) h (fun h => ?_) (fun h => ?_)
    · refine z_aload_n S 0 dX2_append_15 rfl rfl ?_
      refine z_get S (C := RX2) (T := TX2) (N := 4) (ci := 2) 0 m2_X2_append m1_X2_append (Nat.le_of_ble_eq_true rfl) (cC_36 X z0) rfl (Nat.le_of_ble_eq_true rfl) rfl rfl dX2_append_16 ?_
      refine z_aload_n S 0 dX2_append_19 rfl rfl ?_
      refine z_get S (C := RX2) (T := TX2) (N := 4) (ci := 2) 3 m0_X2_append m1_X2_append (Nat.le_of_ble_eq_true rfl) (cC_36 X z0) rfl (Nat.le_of_ble_eq_true rfl) rfl rfl dX2_append_20 ?_
      refine z_iload_n S 1 dX2_append_23 rfl rfl ?_
      refine z_iast S (Nat.le_of_ble_eq_true rfl) (fun _ => rfl) dX2_append_24 h (fun z_24 h => ?_)
      refine z_aload_n S 0 dX2_append_25 rfl rfl ?_
      refine z_get S (C := RX2) (T := TX2) (N := 4) (ci := 2) 1 m3_X2_append m1_X2_append (Nat.le_of_ble_eq_true rfl) (cC_36 X z_24) rfl (Nat.le_of_ble_eq_true rfl) rfl rfl dX2_append_26 ?_
      refine z_aload_n S 0 dX2_append_29 rfl rfl ?_
      refine z_get S (C := RX2) (T := TX2) (N := 4) (ci := 2) 3 m0_X2_append m1_X2_append (Nat.le_of_ble_eq_true rfl) (cC_36 X z_24) rfl (Nat.le_of_ble_eq_true rfl) rfl rfl dX2_append_30 ?_
      refine z_iload_n S 2 dX2_append_33 rfl rfl ?_
      refine z_iast S (Nat.le_of_ble_eq_true rfl) (fun _ => rfl) dX2_append_34 h (fun z_34 h => ?_)
      refine z_aload_n S 0 dX2_append_35 rfl rfl ?_
      refine z_get S (C := RX2) (T := TX2) (N := 4) (ci := 2) 2 m4_X2_append m1_X2_append (Nat.le_of_ble_eq_true rfl) (cC_36 X z_34) rfl (Nat.le_of_ble_eq_true rfl) rfl rfl dX2_append_36 ?_
      refine z_aload_n S 0 dX2_append_39 rfl rfl ?_
      refine z_get S (C := RX2) (T := TX2) (N := 4) (ci := 2) 3 m0_X2_append m1_X2_append (Nat.le_of_ble_eq_true rfl) (cC_36 X z_34) rfl (Nat.le_of_ble_eq_true rfl) rfl rfl dX2_append_40 ?_
      refine z_iload_n S 3 dX2_append_43 rfl rfl ?_
      refine z_iast S (Nat.le_of_ble_eq_true rfl) (fun _ => rfl) dX2_append_44 h (fun z_44 h => ?_)
      refine z_aload_n S 0 dX2_append_45 rfl rfl ?_
      refine z_dup S dX2_append_46 rfl ?_
      refine z_get S (C := RX2) (T := TX2) (N := 4) (ci := 2) 3 m0_X2_append m1_X2_append (Nat.le_of_ble_eq_true rfl) (cC_36 X z_44) rfl (Nat.le_of_ble_eq_true rfl) rfl rfl dX2_append_47 ?_
      refine z_iconst (v := (nI 1)) S dX2_append_50 (by decide) ?_
      refine z_iadd S dX2_append_51 ?_
      refine z_put S (C := RX2) (T := TX2) (N := 4) (ci := 2) 3 tyX2_ok nmX2 m0_X2_append m1_X2_append (Nat.le_of_ble_eq_true rfl) (cC_36 X z_44) rfl (Nat.le_of_ble_eq_true rfl) rfl rfl rfl rfl (Nat.le_of_ble_eq_true rfl) rfl dX2_append_52 h (fun z_52 h => ?_)
      exact z_vret_w S dX2_append_55 h
    · exact z_vret_w S dX2_append_14 h
