/-! SoldLetters$State.guessedNumbersInGrid: a walk -/
theorem hd_X0_guessedNumbersInGrid : yX0_guessedNumbersInGrid.cls = RX0 ∧ yX0_guessedNumbersInGrid.cls ≠ "java/lang/invoke/MethodHandle" ∧ yX0_guessedNumbersInGrid.cls ≠ "java/lang/invoke/VarHandle" ∧ (parseMethodDescriptor yX0_guessedNumbersInGrid.desc).map (fun d => d.parameters.length) = some 0 := by decide +kernel
theorem m0_X0_guessedNumbersInGrid : Cond.fieldLink RX0 15 RX0 (TX0 1).2.1 (TX0 1).2.2.1 ∈ wsX0_guessedNumbersInGrid := by decide +kernel
theorem m1_X0_guessedNumbersInGrid : ∀ w ∈ u_ws RX0 TX0 11, w ∈ wsX0_guessedNumbersInGrid := by decide +kernel
set_option maxHeartbeats 4000000 in
set_option maxRecDepth 100000 in
theorem tl_X0_guessedNumbersInGrid_4 {l : Launch} {D : va_G} {X : zE} {p : Program} {e : Env} {s : State} {m : MethodId} {args : Array Value} {below : List Frame} {meth : Method} {c : Code} (S : zS p m meth c cX0_guessedNumbersInGrid 3 (some .int) s args wsX0_guessedNumbersInGrid RX0 D 44 X) {z0 : zV} {r : Int32} : ∀ (n_ : Nat), ∀ (x1 : Int32) (x2 : Int32), l_X0_guessedNumbersInGrid_4 z0 n_ x1 x2 = some r → Zj false D 44 X p l e (zrm 3 65) s m args below meth c (MQ below (zQr (some (.int r))) args s 0 0 (fun _ => False)) 3 4 [(0, .ref (X.1 0)), (1, .int x1), (2, .int x2)] [] (zc shC X z0) := by
  intro n_
  induction n_ with
  | zero =>
    intro x1 x2 h
    cases h
  | succ n_ ih =>
    intro x1 x2 h
    rw [l_X0_guessedNumbersInGrid_4] at h
    refine z_iload_n S 2 dX0_guessedNumbersInGrid_4 rfl rfl ?_
    refine z_bipush (v := (nI 26)) S dX0_guessedNumbersInGrid_5 (by decide) ?_
    refine z_icmp_gt S (tgt := 36) dX0_guessedNumbersInGrid_7 (by decide) h (fun h => ?_) (fun h => ?_)
    · refine z_iload_n S 1 dX0_guessedNumbersInGrid_36 rfl rfl ?_
      exact z_iret_r S dX0_guessedNumbersInGrid_37 h
    · refine z_aload_n S 0 dX0_guessedNumbersInGrid_10 rfl rfl ?_
      refine z_get S (C := RX0) (T := TX0) (N := 11) (ci := 0) 1 m0_X0_guessedNumbersInGrid m1_X0_guessedNumbersInGrid (Nat.le_of_ble_eq_true rfl) (cC_0 X z0) rfl (Nat.le_of_ble_eq_true rfl) rfl rfl dX0_guessedNumbersInGrid_11 ?_
      refine z_iload_n S 2 dX0_guessedNumbersInGrid_14 rfl rfl ?_
      refine z_iald S (Nat.le_of_ble_eq_true rfl) (cC_2 X z0) dX0_guessedNumbersInGrid_15 h (fun v_15 h => ?_)
      refine z_if_eq S (tgt := 30) dX0_guessedNumbersInGrid_16 (by decide) h (fun h => ?_) (fun h => ?_)
      · refine z_iinc S 2 [(2, .int (x2 + nI 1)), (0, .ref (X.1 0)), (1, .int x1)] dX0_guessedNumbersInGrid_30 rfl rfl (Nat.le_of_ble_eq_true rfl) rfl ?_
        refine z_goto S (tgt := 4) dX0_guessedNumbersInGrid_33 (by decide) ?_
        exact z_lv [1, 2, 0] rfl (ih _ _ h)
      · refine z_aload_n S 0 dX0_guessedNumbersInGrid_19 rfl rfl ?_
        refine z_iload_n S 2 dX0_guessedNumbersInGrid_20 rfl rfl ?_
        obtain ⟨v_21, hv_21, h⟩ := ob_some h
        refine z_callV_r (As := [.int x2]) S (c_X0_cellsWith l D X _ _ S.2.2.1 hv_21) (cwV 1 S.1.2.2.2.2 gX0_guessedNumbersInGrid_X0_cellsWith rfl rfl rfl hd_X0_cellsWith ⟨Nat.le_of_ble_eq_true rfl, Nat.le_of_ble_eq_true rfl⟩) (Nat.le_of_ble_eq_true rfl) (cC_0 X z0) rfl rfl rfl (Nat.le_of_ble_eq_true rfl) rfl dX0_guessedNumbersInGrid_21 ?_
        refine z_if_le S (tgt := 30) dX0_guessedNumbersInGrid_24 (by decide) h (fun h => ?_) (fun h => ?_)
        · refine z_iinc S 2 [(2, .int (x2 + nI 1)), (0, .ref (X.1 0)), (1, .int x1)] dX0_guessedNumbersInGrid_30 rfl rfl (Nat.le_of_ble_eq_true rfl) rfl ?_
          refine z_goto S (tgt := 4) dX0_guessedNumbersInGrid_33 (by decide) ?_
          exact z_lv [1, 2, 0] rfl (ih _ _ h)
        · refine z_iinc S 1 [(1, .int (x1 + nI 1)), (0, .ref (X.1 0)), (2, .int x2)] dX0_guessedNumbersInGrid_27 rfl rfl (Nat.le_of_ble_eq_true rfl) rfl ?_
          refine z_iinc S 2 [(2, .int (x2 + nI 1)), (1, .int (x1 + nI 1)), (0, .ref (X.1 0))] dX0_guessedNumbersInGrid_30 rfl rfl (Nat.le_of_ble_eq_true rfl) rfl ?_
          refine z_goto S (tgt := 4) dX0_guessedNumbersInGrid_33 (by decide) ?_
          exact z_lv [2, 1, 0] rfl (ih _ _ h)
set_option maxHeartbeats 4000000 in
set_option maxRecDepth 100000 in
theorem c_X0_guessedNumbersInGrid (l : Launch) (D : va_G) (X : zE) (z0 : zV) (hinj : zw_inj 44 X.1) {r : Int32} (h : f_X0_guessedNumbersInGrid z0 = some r) : zMr l yX0_guessedNumbersInGrid wsX0_guessedNumbersInGrid (zrm 3 65) D 44 X (zc shC X z0) [.ref (X.1 0)] (some (.int r)) := by
  rw [f_X0_guessedNumbersInGrid] at h
  refine z_start_r (cc := cX0_guessedNumbersInGrid) (maxL := 3) (ret := (some .int)) (by decide) rfl (Nat.le_of_ble_eq_true rfl) hinj ?_
  intro p e s m below meth c S
  refine z_iconst (v := (nI 0)) S dX0_guessedNumbersInGrid_0 (by decide) ?_
  refine z_istore_n S [(1, .int (nI 0)), (0, .ref (X.1 0))] dX0_guessedNumbersInGrid_1 rfl (Nat.le_of_ble_eq_true rfl) rfl ?_
  refine z_iconst (v := (nI 1)) S dX0_guessedNumbersInGrid_2 (by decide) ?_
  refine z_istore_n S [(2, .int (nI 1)), (1, .int (nI 0)), (0, .ref (X.1 0))] dX0_guessedNumbersInGrid_3 rfl (Nat.le_of_ble_eq_true rfl) rfl ?_
  exact z_lv [2, 1, 0] rfl (tl_X0_guessedNumbersInGrid_4 S _ _ _ h)
/-! SoldLetters$State.isSolved: a walk -/
theorem hd_X0_isSolved : yX0_isSolved.cls = RX0 ∧ yX0_isSolved.cls ≠ "java/lang/invoke/MethodHandle" ∧ yX0_isSolved.cls ≠ "java/lang/invoke/VarHandle" ∧ (parseMethodDescriptor yX0_isSolved.desc).map (fun d => d.parameters.length) = some 0 := by decide +kernel
theorem m0_X0_isSolved : Cond.fieldLink RX0 9 RX0 (TX0 0).2.1 (TX0 0).2.2.1 ∈ wsX0_isSolved := by decide +kernel
theorem m1_X0_isSolved : ∀ w ∈ u_ws RX0 TX0 11, w ∈ wsX0_isSolved := by decide +kernel
set_option maxHeartbeats 4000000 in
set_option maxRecDepth 100000 in
theorem tl_X0_isSolved_2 {l : Launch} {D : va_G} {X : zE} {p : Program} {e : Env} {s : State} {m : MethodId} {args : Array Value} {below : List Frame} {meth : Method} {c : Code} (S : zS p m meth c cX0_isSolved 2 (some .boolean) s args wsX0_isSolved RX0 D 44 X) {z0 : zV} {r : Int32} : ∀ (n_ : Nat), ∀ (x1 : Int32), l_X0_isSolved_2 z0 n_ x1 = some r → Zj false D 44 X p l e (zrm 4 85) s m args below meth c (MQ below (zQr (some (.int r))) args s 0 0 (fun _ => False)) 2 2 [(0, .ref (X.1 0)), (1, .int x1)] [] (zc shC X z0) := by
  intro n_
  induction n_ with
  | zero =>
    intro x1 h
    cases h
  | succ n_ ih =>
    intro x1 h
    rw [l_X0_isSolved_2] at h
    refine z_iload_n S 1 dX0_isSolved_2 rfl rfl ?_
    refine z_bipush (v := (nI 49)) S dX0_isSolved_3 (by decide) ?_
    refine z_icmp_ge S (tgt := 30) dX0_isSolved_5 (by decide) h (fun h => ?_) (fun h => ?_)
    · refine z_aload_n S 0 dX0_isSolved_30 rfl rfl ?_
      obtain ⟨v_31, hv_31, h⟩ := ob_some h
      refine z_callV_r (As := []) S (c_X0_cellsWithLetters l D X _ S.2.2.1 hv_31) (cwV 0 S.1.2.2.2.2 gX0_isSolved_X0_cellsWithLetters rfl rfl rfl hd_X0_cellsWithLetters ⟨Nat.le_of_ble_eq_true rfl, Nat.le_of_ble_eq_true rfl⟩) (Nat.le_of_ble_eq_true rfl) (cC_0 X z0) rfl rfl rfl (Nat.le_of_ble_eq_true rfl) rfl dX0_isSolved_31 ?_
      refine z_if_le S (tgt := 41) dX0_isSolved_34 (by decide) h (fun h => ?_) (fun h => ?_)
      · refine z_iconst (v := (nI 0)) S dX0_isSolved_41 (by decide) ?_
        exact z_zret_r S dX0_isSolved_42 h
      · refine z_iconst (v := (nI 1)) S dX0_isSolved_37 (by decide) ?_
        refine z_goto S (tgt := 42) dX0_isSolved_38 (by decide) ?_
        exact z_zret_r S dX0_isSolved_42 h
    · refine z_aload_n S 0 dX0_isSolved_8 rfl rfl ?_
      refine z_iload_n S 1 dX0_isSolved_9 rfl rfl ?_
      obtain ⟨v_10, hv_10, h⟩ := ob_some h
      refine z_callV_r (As := [.int x1]) S (c_X0_guessAt l D X _ _ S.2.2.1 hv_10) (cwV 1 S.1.2.2.2.2 gX0_isSolved_X0_guessAt rfl rfl rfl hd_X0_guessAt ⟨Nat.le_of_ble_eq_true rfl, Nat.le_of_ble_eq_true rfl⟩) (Nat.le_of_ble_eq_true rfl) (cC_0 X z0) rfl rfl rfl (Nat.le_of_ble_eq_true rfl) rfl dX0_isSolved_10 ?_
      refine z_aload_n S 0 dX0_isSolved_13 rfl rfl ?_
      refine z_get S (C := RX0) (T := TX0) (N := 11) (ci := 0) 0 m0_X0_isSolved m1_X0_isSolved (Nat.le_of_ble_eq_true rfl) (cC_0 X z0) rfl (Nat.le_of_ble_eq_true rfl) rfl rfl dX0_isSolved_14 ?_
      refine z_iload_n S 1 dX0_isSolved_17 rfl rfl ?_
      refine z_iald S (Nat.le_of_ble_eq_true rfl) (cC_1 X z0) dX0_isSolved_18 h (fun v_18 h => ?_)
      refine z_icmp_eq S (tgt := 24) dX0_isSolved_19 (by decide) h (fun h => ?_) (fun h => ?_)
      · refine z_iinc S 1 [(1, .int (x1 + nI 1)), (0, .ref (X.1 0))] dX0_isSolved_24 rfl rfl (Nat.le_of_ble_eq_true rfl) rfl ?_
        refine z_goto S (tgt := 2) dX0_isSolved_27 (by decide) ?_
        exact z_lv [1, 0] rfl (ih _ h)
      · refine z_iconst (v := (nI 0)) S dX0_isSolved_22 (by decide) ?_
        exact z_zret_r S dX0_isSolved_23 h
set_option maxHeartbeats 4000000 in
set_option maxRecDepth 100000 in
theorem c_X0_isSolved (l : Launch) (D : va_G) (X : zE) (z0 : zV) (hinj : zw_inj 44 X.1) {r : Int32} (h : f_X0_isSolved z0 = some r) : zMr l yX0_isSolved wsX0_isSolved (zrm 4 85) D 44 X (zc shC X z0) [.ref (X.1 0)] (some (.int r)) := by
  rw [f_X0_isSolved] at h
  refine z_start_r (cc := cX0_isSolved) (maxL := 2) (ret := (some .boolean)) (by decide) rfl (Nat.le_of_ble_eq_true rfl) hinj ?_
  intro p e s m below meth c S
  refine z_iconst (v := (nI 0)) S dX0_isSolved_0 (by decide) ?_
  refine z_istore_n S [(1, .int (nI 0)), (0, .ref (X.1 0))] dX0_isSolved_1 rfl (Nat.le_of_ble_eq_true rfl) rfl ?_
  exact z_lv [1, 0] rfl (tl_X0_isSolved_2 S _ _ h)
/-! SoldLetters.count: a walk -/
theorem hd_X3_count : yX3_count.cls = RX3 ∧ yX3_count.cls ≠ "java/lang/invoke/MethodHandle" ∧ yX3_count.cls ≠ "java/lang/invoke/VarHandle" ∧ (parseMethodDescriptor yX3_count.desc).map (fun d => d.parameters.length) = some 1 := by decide +kernel
theorem m0_X3_count : Cond.fieldLink RX3 12 RX3 (TX3 0).2.1 (TX3 0).2.2.1 ∈ wsX3_count := by decide +kernel
theorem m1_X3_count : ∀ w ∈ u_ws RX3 TX3 7, w ∈ wsX3_count := by decide +kernel
theorem m2_X3_count : Cond.fieldLink RX3 19 RX3 (TX3 1).2.1 (TX3 1).2.2.1 ∈ wsX3_count := by decide +kernel
theorem m3_X3_count : Cond.fieldLink RX3 63 RX2 (TX2 3).2.1 (TX2 3).2.2.1 ∈ wsX3_count := by decide +kernel
theorem m4_X3_count : ∀ w ∈ u_ws RX2 TX2 4, w ∈ wsX3_count := by decide +kernel
theorem m5_X3_count : Cond.fieldLink RX3 85 RX0 (TX0 5).2.1 (TX0 5).2.2.1 ∈ wsX3_count := by decide +kernel
theorem m6_X3_count : ∀ w ∈ u_ws RX0 TX0 11, w ∈ wsX3_count := by decide +kernel
theorem m7_X3_count : Cond.fieldLink RX3 152 RX0 (TX0 8).2.1 (TX0 8).2.2.1 ∈ wsX3_count := by decide +kernel
theorem m8_X3_count : Cond.fieldLink RX3 164 RX0 (TX0 9).2.1 (TX0 9).2.2.1 ∈ wsX3_count := by decide +kernel
theorem m9_X3_count : Cond.fieldLink RX3 167 RX0 (TX0 10).2.1 (TX0 10).2.2.1 ∈ wsX3_count := by decide +kernel
theorem m10_X3_count : Cond.fieldLink RX3 70 RX0 (TX0 6).2.1 (TX0 6).2.2.1 ∈ wsX3_count := by decide +kernel
theorem m11_X3_count : Cond.fieldLink RX3 73 RX0 (TX0 7).2.1 (TX0 7).2.2.1 ∈ wsX3_count := by decide +kernel
theorem m12_X3_count : Cond.fieldLink RX3 184 RX3 (TX3 5).2.1 (TX3 5).2.2.1 ∈ wsX3_count := by decide +kernel
theorem m13_X3_count : Cond.fieldLink RX3 26 RX3 (TX3 2).2.1 (TX3 2).2.2.1 ∈ wsX3_count := by decide +kernel
theorem m14_X3_count : Cond.fieldLink RX3 88 RX1 (TX1 1).2.1 (TX1 1).2.2.1 ∈ wsX3_count := by decide +kernel
theorem m15_X3_count : ∀ w ∈ u_ws RX1 TX1 2, w ∈ wsX3_count := by decide +kernel
set_option maxHeartbeats 4000000 in
set_option maxRecDepth 100000 in
theorem c_X3_count (l : Launch) (D : va_G) (X : zE) (z0 : zV) (a0 : Int32) (hinj : zw_inj 44 X.1) {r : Int32} (h : f_X3_count z0 a0 = some r) : zMr l yX3_count wsX3_count (zrm 5 106) D 44 X (zc shC X z0) [.ref (X.1 42), .int a0] (some (.int r)) := by
  rw [f_X3_count] at h
  refine z_start_r (cc := cX3_count) (maxL := 2) (ret := (some .int)) (by decide) rfl (Nat.le_of_ble_eq_true rfl) hinj ?_
  intro p e s m below meth c S
  refine z_iload_n S 1 dX3_count_0 rfl rfl ?_
  by_cases c0 : a0 = nI 0
  · have h := (zif h).1 c0
    refine z_tableIn S (tgt := 72) c0 dX3_count_1 (by decide) (by decide) rfl (by decide) ?_
    refine z_aload_n S 0 dX3_count_72 rfl rfl ?_
    refine z_get S (C := RX3) (T := TX3) (N := 7) (ci := 3) 0 m0_X3_count m1_X3_count (Nat.le_of_ble_eq_true rfl) (cC_42 X z0) rfl (Nat.le_of_ble_eq_true rfl) rfl rfl dX3_count_73 ?_
    obtain ⟨v_76, hv_76, h⟩ := ob_some h
    refine z_callV_r (As := []) S (c_X0_cellsWithLetters l D X _ S.2.2.1 hv_76) (cwV 0 S.1.2.2.2.2 gX3_count_X0_cellsWithLetters rfl rfl rfl hd_X0_cellsWithLetters ⟨Nat.le_of_ble_eq_true rfl, Nat.le_of_ble_eq_true rfl⟩) (Nat.le_of_ble_eq_true rfl) (cC_0 X z0) rfl rfl rfl (Nat.le_of_ble_eq_true rfl) rfl dX3_count_76 ?_
    exact z_iret_r S dX3_count_79 h
  have h := (zif h).2 c0
  by_cases c1 : a0 = nI 1
  · have h := (zif h).1 c1
    refine z_tableIn S (tgt := 80) c1 dX3_count_1 (by decide) (by decide) rfl (by decide) ?_
    refine z_aload_n S 0 dX3_count_80 rfl rfl ?_
    refine z_get S (C := RX3) (T := TX3) (N := 7) (ci := 3) 1 m2_X3_count m1_X3_count (Nat.le_of_ble_eq_true rfl) (cC_42 X z0) rfl (Nat.le_of_ble_eq_true rfl) rfl rfl dX3_count_81 ?_
    refine z_get S (C := RX2) (T := TX2) (N := 4) (ci := 2) 3 m3_X3_count m4_X3_count (Nat.le_of_ble_eq_true rfl) (cC_36 X z0) rfl (Nat.le_of_ble_eq_true rfl) rfl rfl dX3_count_84 ?_
    exact z_iret_r S dX3_count_87 h
  have h := (zif h).2 c1
  by_cases c2 : a0 = nI 2
  · have h := (zif h).1 c2
    refine z_tableIn S (tgt := 88) c2 dX3_count_1 (by decide) (by decide) rfl (by decide) ?_
    refine z_aload_n S 0 dX3_count_88 rfl rfl ?_
    refine z_get S (C := RX3) (T := TX3) (N := 7) (ci := 3) 0 m0_X3_count m1_X3_count (Nat.le_of_ble_eq_true rfl) (cC_42 X z0) rfl (Nat.le_of_ble_eq_true rfl) rfl rfl dX3_count_89 ?_
    refine z_get S (C := RX0) (T := TX0) (N := 11) (ci := 0) 5 m5_X3_count m6_X3_count (Nat.le_of_ble_eq_true rfl) (cC_0 X z0) rfl (Nat.le_of_ble_eq_true rfl) rfl rfl dX3_count_92 ?_
    exact z_iret_r S dX3_count_95 h
  have h := (zif h).2 c2
  by_cases c3 : a0 = nI 3
  · have h := (zif h).1 c3
    refine z_tableIn S (tgt := 96) c3 dX3_count_1 (by decide) (by decide) rfl (by decide) ?_
    refine z_aload_n S 0 dX3_count_96 rfl rfl ?_
    refine z_get S (C := RX3) (T := TX3) (N := 7) (ci := 3) 0 m0_X3_count m1_X3_count (Nat.le_of_ble_eq_true rfl) (cC_42 X z0) rfl (Nat.le_of_ble_eq_true rfl) rfl rfl dX3_count_97 ?_
    refine z_get S (C := RX0) (T := TX0) (N := 11) (ci := 0) 8 m7_X3_count m6_X3_count (Nat.le_of_ble_eq_true rfl) (cC_0 X z0) rfl (Nat.le_of_ble_eq_true rfl) rfl rfl dX3_count_100 ?_
    exact z_iret_r S dX3_count_103 h
  have h := (zif h).2 c3
  by_cases c4 : a0 = nI 4
  · have h := (zif h).1 c4
    refine z_tableIn S (tgt := 104) c4 dX3_count_1 (by decide) (by decide) rfl (by decide) ?_
    refine z_aload_n S 0 dX3_count_104 rfl rfl ?_
    refine z_get S (C := RX3) (T := TX3) (N := 7) (ci := 3) 0 m0_X3_count m1_X3_count (Nat.le_of_ble_eq_true rfl) (cC_42 X z0) rfl (Nat.le_of_ble_eq_true rfl) rfl rfl dX3_count_105 ?_
    obtain ⟨v_108, hv_108, h⟩ := ob_some h
    refine z_callV_r (As := []) S (c_X0_numbersInGrid l D X _ S.2.2.1 hv_108) (cwV 0 S.1.2.2.2.2 gX3_count_X0_numbersInGrid rfl rfl rfl hd_X0_numbersInGrid ⟨Nat.le_of_ble_eq_true rfl, Nat.le_of_ble_eq_true rfl⟩) (Nat.le_of_ble_eq_true rfl) (cC_0 X z0) rfl rfl rfl (Nat.le_of_ble_eq_true rfl) rfl dX3_count_108 ?_
    exact z_iret_r S dX3_count_111 h
  have h := (zif h).2 c4
  by_cases c5 : a0 = nI 5
  · have h := (zif h).1 c5
    refine z_tableIn S (tgt := 112) c5 dX3_count_1 (by decide) (by decide) rfl (by decide) ?_
    refine z_aload_n S 0 dX3_count_112 rfl rfl ?_
    refine z_get S (C := RX3) (T := TX3) (N := 7) (ci := 3) 0 m0_X3_count m1_X3_count (Nat.le_of_ble_eq_true rfl) (cC_42 X z0) rfl (Nat.le_of_ble_eq_true rfl) rfl rfl dX3_count_113 ?_
    obtain ⟨v_116, hv_116, h⟩ := ob_some h
    refine z_callV_r (As := []) S (c_X0_guessedNumbersInGrid l D X _ S.2.2.1 hv_116) (cwV 0 S.1.2.2.2.2 gX3_count_X0_guessedNumbersInGrid rfl rfl rfl hd_X0_guessedNumbersInGrid ⟨Nat.le_of_ble_eq_true rfl, Nat.le_of_ble_eq_true rfl⟩) (Nat.le_of_ble_eq_true rfl) (cC_0 X z0) rfl rfl rfl (Nat.le_of_ble_eq_true rfl) rfl dX3_count_116 ?_
    exact z_iret_r S dX3_count_119 h
  have h := (zif h).2 c5
  by_cases c6 : a0 = nI 6
  · have h := (zif h).1 c6
    refine z_tableIn S (tgt := 120) c6 dX3_count_1 (by decide) (by decide) rfl (by decide) ?_
    refine z_aload_n S 0 dX3_count_120 rfl rfl ?_
    refine z_get S (C := RX3) (T := TX3) (N := 7) (ci := 3) 0 m0_X3_count m1_X3_count (Nat.le_of_ble_eq_true rfl) (cC_42 X z0) rfl (Nat.le_of_ble_eq_true rfl) rfl rfl dX3_count_121 ?_
    obtain ⟨v_124, hv_124, h⟩ := ob_some h
    refine z_callV_r (As := []) S (c_X0_guessedCells l D X _ S.2.2.1 hv_124) (cwV 0 S.1.2.2.2.2 gX3_count_X0_guessedCells rfl rfl rfl hd_X0_guessedCells ⟨Nat.le_of_ble_eq_true rfl, Nat.le_of_ble_eq_true rfl⟩) (Nat.le_of_ble_eq_true rfl) (cC_0 X z0) rfl rfl rfl (Nat.le_of_ble_eq_true rfl) rfl dX3_count_124 ?_
    exact z_iret_r S dX3_count_127 h
  have h := (zif h).2 c6
  by_cases c7 : a0 = nI 7
  · have h := (zif h).1 c7
    refine z_tableIn S (tgt := 128) c7 dX3_count_1 (by decide) (by decide) rfl (by decide) ?_
    refine z_aload_n S 0 dX3_count_128 rfl rfl ?_
    refine z_get S (C := RX3) (T := TX3) (N := 7) (ci := 3) 0 m0_X3_count m1_X3_count (Nat.le_of_ble_eq_true rfl) (cC_42 X z0) rfl (Nat.le_of_ble_eq_true rfl) rfl rfl dX3_count_129 ?_
    obtain ⟨v_132, hv_132, h⟩ := ob_some h
    refine z_callV_r (As := []) S (c_X0_isSolved l D X _ S.2.2.1 hv_132) (cwV 0 S.1.2.2.2.2 gX3_count_X0_isSolved rfl rfl rfl hd_X0_isSolved ⟨Nat.le_of_ble_eq_true rfl, Nat.le_of_ble_eq_true rfl⟩) (Nat.le_of_ble_eq_true rfl) (cC_0 X z0) rfl rfl rfl (Nat.le_of_ble_eq_true rfl) rfl dX3_count_132 ?_
    obtain ⟨v_135, hv_135, h⟩ := ob_some h
    refine z_callS_r (As := [.int v_132]) S (c_X3_oneIf l D X _ _ S.2.2.1 hv_135) (va_cwS 1 S.1.2.2.2.2 gX3_count_X3_oneIf rfl rfl rfl hd_X3_oneIf ⟨Nat.le_of_ble_eq_true rfl, Nat.le_of_ble_eq_true rfl⟩) rfl rfl (Nat.le_of_ble_eq_true rfl) rfl dX3_count_135 ?_
    exact z_iret_r S dX3_count_138 h
  have h := (zif h).2 c7
  by_cases c8 : a0 = nI 8
  · have h := (zif h).1 c8
    refine z_tableIn S (tgt := 139) c8 dX3_count_1 (by decide) (by decide) rfl (by decide) ?_
    refine z_aload_n S 0 dX3_count_139 rfl rfl ?_
    refine z_get S (C := RX3) (T := TX3) (N := 7) (ci := 3) 0 m0_X3_count m1_X3_count (Nat.le_of_ble_eq_true rfl) (cC_42 X z0) rfl (Nat.le_of_ble_eq_true rfl) rfl rfl dX3_count_140 ?_
    refine z_get S (C := RX0) (T := TX0) (N := 11) (ci := 0) 9 m8_X3_count m6_X3_count (Nat.le_of_ble_eq_true rfl) (cC_0 X z0) rfl (Nat.le_of_ble_eq_true rfl) rfl rfl dX3_count_143 ?_
    exact z_iret_r S dX3_count_146 h
  have h := (zif h).2 c8
  by_cases c9 : a0 = nI 9
  · have h := (zif h).1 c9
    refine z_tableIn S (tgt := 147) c9 dX3_count_1 (by decide) (by decide) rfl (by decide) ?_
    refine z_aload_n S 0 dX3_count_147 rfl rfl ?_
    refine z_get S (C := RX3) (T := TX3) (N := 7) (ci := 3) 0 m0_X3_count m1_X3_count (Nat.le_of_ble_eq_true rfl) (cC_42 X z0) rfl (Nat.le_of_ble_eq_true rfl) rfl rfl dX3_count_148 ?_
    refine z_get S (C := RX0) (T := TX0) (N := 11) (ci := 0) 10 m9_X3_count m6_X3_count (Nat.le_of_ble_eq_true rfl) (cC_0 X z0) rfl (Nat.le_of_ble_eq_true rfl) rfl rfl dX3_count_151 ?_
    exact z_iret_r S dX3_count_154 h
  have h := (zif h).2 c9
  by_cases c10 : a0 = nI 10
  · have h := (zif h).1 c10
    refine z_tableIn S (tgt := 155) c10 dX3_count_1 (by decide) (by decide) rfl (by decide) ?_
    refine z_aload_n S 0 dX3_count_155 rfl rfl ?_
    refine z_get S (C := RX3) (T := TX3) (N := 7) (ci := 3) 0 m0_X3_count m1_X3_count (Nat.le_of_ble_eq_true rfl) (cC_42 X z0) rfl (Nat.le_of_ble_eq_true rfl) rfl rfl dX3_count_156 ?_
    refine z_get S (C := RX0) (T := TX0) (N := 11) (ci := 0) 6 m10_X3_count m6_X3_count (Nat.le_of_ble_eq_true rfl) (cC_0 X z0) rfl (Nat.le_of_ble_eq_true rfl) rfl rfl dX3_count_159 ?_
    exact z_iret_r S dX3_count_162 h
  have h := (zif h).2 c10
  by_cases c11 : a0 = nI 11
  · have h := (zif h).1 c11
    refine z_tableIn S (tgt := 163) c11 dX3_count_1 (by decide) (by decide) rfl (by decide) ?_
    refine z_aload_n S 0 dX3_count_163 rfl rfl ?_
    refine z_get S (C := RX3) (T := TX3) (N := 7) (ci := 3) 0 m0_X3_count m1_X3_count (Nat.le_of_ble_eq_true rfl) (cC_42 X z0) rfl (Nat.le_of_ble_eq_true rfl) rfl rfl dX3_count_164 ?_
    refine z_get S (C := RX0) (T := TX0) (N := 11) (ci := 0) 7 m11_X3_count m6_X3_count (Nat.le_of_ble_eq_true rfl) (cC_0 X z0) rfl (Nat.le_of_ble_eq_true rfl) rfl rfl dX3_count_167 ?_
    exact z_iret_r S dX3_count_170 h
  have h := (zif h).2 c11
  by_cases c12 : a0 = nI 12
  · have h := (zif h).1 c12
    refine z_tableIn S (tgt := 171) c12 dX3_count_1 (by decide) (by decide) rfl (by decide) ?_
    refine z_aload_n S 0 dX3_count_171 rfl rfl ?_
    refine z_get S (C := RX3) (T := TX3) (N := 7) (ci := 3) 5 m12_X3_count m1_X3_count (Nat.le_of_ble_eq_true rfl) (cC_42 X z0) rfl (Nat.le_of_ble_eq_true rfl) rfl rfl dX3_count_172 ?_
    exact z_iret_r S dX3_count_175 h
  have h := (zif h).2 c12
  by_cases c13 : a0 = nI 13
  · have h := (zif h).1 c13
    refine z_tableIn S (tgt := 176) c13 dX3_count_1 (by decide) (by decide) rfl (by decide) ?_
    refine z_aload_n S 0 dX3_count_176 rfl rfl ?_
    refine z_get S (C := RX3) (T := TX3) (N := 7) (ci := 3) 2 m13_X3_count m1_X3_count (Nat.le_of_ble_eq_true rfl) (cC_42 X z0) rfl (Nat.le_of_ble_eq_true rfl) rfl rfl dX3_count_177 ?_
    refine z_get S (C := RX1) (T := TX1) (N := 2) (ci := 1) 1 m14_X3_count m15_X3_count (Nat.le_of_ble_eq_true rfl) (cC_40 X z0) rfl (Nat.le_of_ble_eq_true rfl) rfl rfl dX3_count_180 ?_
    exact z_iret_r S dX3_count_183 h
  have h := (zif h).2 c13
  have e0 := lv_neT (a := 0) c0 rfl
  have e1 := lv_neT (a := 1) c1 rfl
  have e2 := lv_neT (a := 2) c2 rfl
  have e3 := lv_neT (a := 3) c3 rfl
  have e4 := lv_neT (a := 4) c4 rfl
  have e5 := lv_neT (a := 5) c5 rfl
  have e6 := lv_neT (a := 6) c6 rfl
  have e7 := lv_neT (a := 7) c7 rfl
  have e8 := lv_neT (a := 8) c8 rfl
  have e9 := lv_neT (a := 9) c9 rfl
  have e10 := lv_neT (a := 10) c10 rfl
  have e11 := lv_neT (a := 11) c11 rfl
  have e12 := lv_neT (a := 12) c12 rfl
  have e13 := lv_neT (a := 13) c13 rfl
  refine z_tableOut S (tgt := 184) dX3_count_1 (by omega) (by decide) ?_
  refine z_bipush (v := (-2)) S dX3_count_184 (by decide) ?_
  exact z_iret_r S dX3_count_186 h
