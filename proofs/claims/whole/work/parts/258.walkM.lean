/-! SoldLettersModel.letterCells: a walk -/
theorem hd_X4_letterCells : yX4_letterCells.cls = RX4 ∧ yX4_letterCells.cls ≠ "java/lang/invoke/MethodHandle" ∧ yX4_letterCells.cls ≠ "java/lang/invoke/VarHandle" ∧ (parseMethodDescriptor yX4_letterCells.desc).map (fun d => d.parameters.length) = some 0 := by decide +kernel
theorem m0_X4_letterCells : Cond.fieldLink RX4 7 RX4 (TX4 0).2.1 (TX4 0).2.2.1 ∈ wsX4_letterCells := by decide +kernel
theorem m1_X4_letterCells : ∀ w ∈ u_ws RX4 TX4 12, w ∈ wsX4_letterCells := by decide +kernel
set_option maxHeartbeats 4000000 in
set_option maxRecDepth 100000 in
theorem tl_X4_letterCells_4 {l : Launch} {D : va_G} {X : zE} {p : Program} {e : Env} {s : State} {m : MethodId} {args : Array Value} {below : List Frame} {meth : Method} {c : Code} (S : zS p m meth c cX4_letterCells 3 (some .int) s args wsX4_letterCells RX4 D 9 X) {z0 : zV} {r : Int32} : ∀ (n_ : Nat), ∀ (x1 : Int32) (x2 : Int32), l_X4_letterCells_4 z0 n_ x1 x2 = some r → Zj false D 9 X p l e (zrm 0 0) s m args below meth c (MQ below (zQr (some (.int r))) args s 0 0 (fun _ => False)) 3 4 [(0, .ref (X.1 0)), (1, .int x1), (2, .int x2)] [] (zc shM X z0) := by
  intro n_
  induction n_ with
  | zero =>
    intro x1 x2 h
    cases h
  | succ n_ ih =>
    intro x1 x2 h
    rw [l_X4_letterCells_4] at h
    refine z_iload_n S 2 dX4_letterCells_4 rfl rfl ?_
    refine z_bipush (v := (nI 49)) S dX4_letterCells_5 (by decide) ?_
    refine z_icmp_ge S (tgt := 36) dX4_letterCells_7 (by decide) h (fun h => ?_) (fun h => ?_)
    · refine z_iload_n S 1 dX4_letterCells_36 rfl rfl ?_
      exact z_iret_r S dX4_letterCells_37 h
    · refine z_iload_n S 1 dX4_letterCells_10 rfl rfl ?_
      refine z_aload_n S 0 dX4_letterCells_11 rfl rfl ?_
      refine z_get S (C := RX4) (T := TX4) (N := 12) (ci := 4) 0 m0_X4_letterCells m1_X4_letterCells (Nat.le_of_ble_eq_true rfl) (cM_0 X z0) rfl (Nat.le_of_ble_eq_true rfl) rfl rfl dX4_letterCells_12 ?_
      refine z_iconst (v := (nI 0)) S dX4_letterCells_15 (by decide) ?_
      refine z_iload_n S 2 dX4_letterCells_16 rfl rfl ?_
      refine z_iadd S dX4_letterCells_17 ?_
      refine z_iald S (Nat.le_of_ble_eq_true rfl) (cM_1 X z0) dX4_letterCells_18 h (fun v_18 h => ?_)
      refine z_iconst (v := (-1)) S dX4_letterCells_19 (by decide) ?_
      refine z_icmp_eq S (tgt := 27) dX4_letterCells_20 (by decide) h (fun h => ?_) (fun h => ?_)
      · refine z_iconst (v := (nI 0)) S dX4_letterCells_27 (by decide) ?_
        refine z_iadd S dX4_letterCells_28 ?_
        refine z_istore_n S [(1, .int (x1 + (nI 0))), (0, .ref (X.1 0)), (2, .int x2)] dX4_letterCells_29 rfl (Nat.le_of_ble_eq_true rfl) rfl ?_
        refine z_iinc S 2 [(2, .int (x2 + nI 1)), (1, .int (x1 + (nI 0))), (0, .ref (X.1 0))] dX4_letterCells_30 rfl rfl (Nat.le_of_ble_eq_true rfl) rfl ?_
        refine z_goto S (tgt := 4) dX4_letterCells_33 (by decide) ?_
        exact z_lv [2, 1, 0] rfl (ih _ _ h)
      · refine z_iconst (v := (nI 1)) S dX4_letterCells_23 (by decide) ?_
        refine z_goto S (tgt := 28) dX4_letterCells_24 (by decide) ?_
        refine z_iadd S dX4_letterCells_28 ?_
        refine z_istore_n S [(1, .int (x1 + (nI 1))), (0, .ref (X.1 0)), (2, .int x2)] dX4_letterCells_29 rfl (Nat.le_of_ble_eq_true rfl) rfl ?_
        refine z_iinc S 2 [(2, .int (x2 + nI 1)), (1, .int (x1 + (nI 1))), (0, .ref (X.1 0))] dX4_letterCells_30 rfl rfl (Nat.le_of_ble_eq_true rfl) rfl ?_
        refine z_goto S (tgt := 4) dX4_letterCells_33 (by decide) ?_
        exact z_lv [2, 1, 0] rfl (ih _ _ h)
set_option maxHeartbeats 4000000 in
set_option maxRecDepth 100000 in
theorem c_X4_letterCells (l : Launch) (D : va_G) (X : zE) (z0 : zV) (hinj : zw_inj 9 X.1) {r : Int32} (h : f_X4_letterCells z0 = some r) : zMr l yX4_letterCells wsX4_letterCells (zrm 0 0) D 9 X (zc shM X z0) [.ref (X.1 0)] (some (.int r)) := by
  rw [f_X4_letterCells] at h
  refine z_start_r (cc := cX4_letterCells) (maxL := 3) (ret := (some .int)) (by decide) rfl (Nat.le_of_ble_eq_true rfl) hinj ?_
  intro p e s m below meth c S
  refine z_iconst (v := (nI 0)) S dX4_letterCells_0 (by decide) ?_
  refine z_istore_n S [(1, .int (nI 0)), (0, .ref (X.1 0))] dX4_letterCells_1 rfl (Nat.le_of_ble_eq_true rfl) rfl ?_
  refine z_iconst (v := (nI 0)) S dX4_letterCells_2 (by decide) ?_
  refine z_istore_n S [(2, .int (nI 0)), (1, .int (nI 0)), (0, .ref (X.1 0))] dX4_letterCells_3 rfl (Nat.le_of_ble_eq_true rfl) rfl ?_
  exact z_lv [2, 1, 0] rfl (tl_X4_letterCells_4 S _ _ _ h)
/-! SoldLettersModel.wordsNow: a walk -/
theorem hd_X4_wordsNow : yX4_wordsNow.cls = RX4 ∧ yX4_wordsNow.cls ≠ "java/lang/invoke/MethodHandle" ∧ yX4_wordsNow.cls ≠ "java/lang/invoke/VarHandle" ∧ (parseMethodDescriptor yX4_wordsNow.desc).map (fun d => d.parameters.length) = some 0 := by decide +kernel
theorem m0_X4_wordsNow : Cond.fieldLink RX4 57 RX4 (TX4 9).2.1 (TX4 9).2.2.1 ∈ wsX4_wordsNow := by decide +kernel
theorem m1_X4_wordsNow : ∀ w ∈ u_ws RX4 TX4 12, w ∈ wsX4_wordsNow := by decide +kernel
set_option maxHeartbeats 4000000 in
set_option maxRecDepth 100000 in
theorem c_X4_wordsNow (l : Launch) (D : va_G) (X : zE) (z0 : zV) (hinj : zw_inj 9 X.1) {r : Int32} {z1 : zV} (h : f_X4_wordsNow z0 = some (r, z1)) : zMw l yX4_wordsNow wsX4_wordsNow (zrm 2 45) D 9 X (zc shM X z0) [.ref (X.1 0)] (some (.int r)) (zc shM X z1) := by
  rw [f_X4_wordsNow] at h
  refine z_start_w (cc := cX4_wordsNow) (maxL := 1) (ret := (some .int)) (by decide) rfl (Nat.le_of_ble_eq_true rfl) hinj ?_
  intro p e s m below meth c S
  refine z_aload_n S 0 dX4_wordsNow_0 rfl rfl ?_
  obtain ⟨z_1, hv_1, h⟩ := ob_some h
  refine z_callV_w (As := []) S (c_X4_findsWords l D X _ S.2.2.1 hv_1) (cwV 0 S.1.2.2.2.2 gX4_wordsNow_X4_findsWords rfl rfl rfl hd_X4_findsWords ⟨Nat.le_of_ble_eq_true rfl, Nat.le_of_ble_eq_true rfl⟩) (Nat.le_of_ble_eq_true rfl) (cM_0 X z0) rfl rfl rfl (Nat.le_of_ble_eq_true rfl) rfl dX4_wordsNow_1 ?_
  refine z_aload_n S 0 dX4_wordsNow_4 rfl rfl ?_
  refine z_get S (C := RX4) (T := TX4) (N := 12) (ci := 4) 9 m0_X4_wordsNow m1_X4_wordsNow (Nat.le_of_ble_eq_true rfl) (cM_0 X z_1) rfl (Nat.le_of_ble_eq_true rfl) rfl rfl dX4_wordsNow_5 ?_
  exact z_iret_w S dX4_wordsNow_8 h
/-! SoldLettersModel.numbers: a walk -/
theorem hd_X4_numbers : yX4_numbers.cls = RX4 ∧ yX4_numbers.cls ≠ "java/lang/invoke/MethodHandle" ∧ yX4_numbers.cls ≠ "java/lang/invoke/VarHandle" ∧ (parseMethodDescriptor yX4_numbers.desc).map (fun d => d.parameters.length) = some 1 := by decide +kernel
theorem m0_X4_numbers : Cond.fieldLink RX4 7 RX4 (TX4 0).2.1 (TX4 0).2.2.1 ∈ wsX4_numbers := by decide +kernel
theorem m1_X4_numbers : ∀ w ∈ u_ws RX4 TX4 12, w ∈ wsX4_numbers := by decide +kernel
set_option maxHeartbeats 4000000 in
set_option maxRecDepth 100000 in
theorem tl_X4_numbers_4 {l : Launch} {D : va_G} {X : zE} {p : Program} {e : Env} {s : State} {m : MethodId} {args : Array Value} {below : List Frame} {meth : Method} {c : Code} (S : zS p m meth c cX4_numbers 4 (some .int) s args wsX4_numbers RX4 D 9 X) {z0 : zV} {r : Int32} : ∀ (n_ : Nat), ∀ (x1 : Int32) (x2 : Int32) (x3 : Int32), l_X4_numbers_4 z0 n_ x1 x2 x3 = some r → Zj false D 9 X p l e (zrm 3 65) s m args below meth c (MQ below (zQr (some (.int r))) args s 0 0 (fun _ => False)) 4 4 [(0, .ref (X.1 0)), (1, .int x1), (2, .int x2), (3, .int x3)] [] (zc shM X z0) := by
  intro n_
  induction n_ with
  | zero =>
    intro x1 x2 x3 h
    cases h
  | succ n_ ih =>
    intro x1 x2 x3 h
    rw [l_X4_numbers_4] at h
    refine z_iload_n S 3 dX4_numbers_4 rfl rfl ?_
    refine z_bipush (v := (nI 26)) S dX4_numbers_5 (by decide) ?_
    refine z_icmp_gt S (tgt := 49) dX4_numbers_7 (by decide) h (fun h => ?_) (fun h => ?_)
    · refine z_iload_n S 2 dX4_numbers_49 rfl rfl ?_
      exact z_iret_r S dX4_numbers_50 h
    · refine z_iload_n S 2 dX4_numbers_10 rfl rfl ?_
      refine z_aload_n S 0 dX4_numbers_11 rfl rfl ?_
      refine z_iload_n S 3 dX4_numbers_12 rfl rfl ?_
      obtain ⟨v_13, hv_13, h⟩ := ob_some h
      refine z_callV_r (As := [.int x3]) S (c_X4_cellsWith l D X _ _ S.2.2.1 hv_13) (cwV 1 S.1.2.2.2.2 gX4_numbers_X4_cellsWith rfl rfl rfl hd_X4_cellsWith ⟨Nat.le_of_ble_eq_true rfl, Nat.le_of_ble_eq_true rfl⟩) (Nat.le_of_ble_eq_true rfl) (cM_0 X z0) rfl rfl rfl (Nat.le_of_ble_eq_true rfl) rfl dX4_numbers_13 ?_
      refine z_if_le S (tgt := 40) dX4_numbers_16 (by decide) h (fun h => ?_) (fun h => ?_)
      · refine z_iconst (v := (nI 0)) S dX4_numbers_40 (by decide) ?_
        refine z_iadd S dX4_numbers_41 ?_
        refine z_istore_n S [(2, .int (x2 + (nI 0))), (0, .ref (X.1 0)), (1, .int x1), (3, .int x3)] dX4_numbers_42 rfl (Nat.le_of_ble_eq_true rfl) rfl ?_
        refine z_iinc S 3 [(3, .int (x3 + nI 1)), (2, .int (x2 + (nI 0))), (0, .ref (X.1 0)), (1, .int x1)] dX4_numbers_43 rfl rfl (Nat.le_of_ble_eq_true rfl) rfl ?_
        refine z_goto S (tgt := 4) dX4_numbers_46 (by decide) ?_
        exact z_lv [2, 3, 1, 0] rfl (ih _ _ _ h)
      · refine z_iload_n S 1 dX4_numbers_19 rfl rfl ?_
        refine z_if_eq S (tgt := 36) dX4_numbers_20 (by decide) h (fun h => ?_) (fun h => ?_)
        · refine z_iconst (v := (nI 1)) S dX4_numbers_36 (by decide) ?_
          refine z_goto S (tgt := 41) dX4_numbers_37 (by decide) ?_
          refine z_iadd S dX4_numbers_41 ?_
          refine z_istore_n S [(2, .int (x2 + (nI 1))), (0, .ref (X.1 0)), (1, .int x1), (3, .int x3)] dX4_numbers_42 rfl (Nat.le_of_ble_eq_true rfl) rfl ?_
          refine z_iinc S 3 [(3, .int (x3 + nI 1)), (2, .int (x2 + (nI 1))), (0, .ref (X.1 0)), (1, .int x1)] dX4_numbers_43 rfl rfl (Nat.le_of_ble_eq_true rfl) rfl ?_
          refine z_goto S (tgt := 4) dX4_numbers_46 (by decide) ?_
          exact z_lv [2, 3, 1, 0] rfl (ih _ _ _ h)
        · refine z_aload_n S 0 dX4_numbers_23 rfl rfl ?_
          refine z_get S (C := RX4) (T := TX4) (N := 12) (ci := 4) 0 m0_X4_numbers m1_X4_numbers (Nat.le_of_ble_eq_true rfl) (cM_0 X z0) rfl (Nat.le_of_ble_eq_true rfl) rfl rfl dX4_numbers_24 ?_
          refine z_bipush (v := (nI 51)) S dX4_numbers_27 (by decide) ?_
          refine z_iload_n S 3 dX4_numbers_29 rfl rfl ?_
          refine z_iadd S dX4_numbers_30 ?_
          refine z_iald S (Nat.le_of_ble_eq_true rfl) (cM_1 X z0) dX4_numbers_31 h (fun v_31 h => ?_)
          refine z_iconst (v := (-1)) S dX4_numbers_32 (by decide) ?_
          refine z_icmp_eq S (tgt := 40) dX4_numbers_33 (by decide) h (fun h => ?_) (fun h => ?_)
          · refine z_iconst (v := (nI 0)) S dX4_numbers_40 (by decide) ?_
            refine z_iadd S dX4_numbers_41 ?_
            refine z_istore_n S [(2, .int (x2 + (nI 0))), (0, .ref (X.1 0)), (1, .int x1), (3, .int x3)] dX4_numbers_42 rfl (Nat.le_of_ble_eq_true rfl) rfl ?_
            refine z_iinc S 3 [(3, .int (x3 + nI 1)), (2, .int (x2 + (nI 0))), (0, .ref (X.1 0)), (1, .int x1)] dX4_numbers_43 rfl rfl (Nat.le_of_ble_eq_true rfl) rfl ?_
            refine z_goto S (tgt := 4) dX4_numbers_46 (by decide) ?_
            exact z_lv [2, 3, 1, 0] rfl (ih _ _ _ h)
          · refine z_iconst (v := (nI 1)) S dX4_numbers_36 (by decide) ?_
            refine z_goto S (tgt := 41) dX4_numbers_37 (by decide) ?_
            refine z_iadd S dX4_numbers_41 ?_
            refine z_istore_n S [(2, .int (x2 + (nI 1))), (0, .ref (X.1 0)), (1, .int x1), (3, .int x3)] dX4_numbers_42 rfl (Nat.le_of_ble_eq_true rfl) rfl ?_
            refine z_iinc S 3 [(3, .int (x3 + nI 1)), (2, .int (x2 + (nI 1))), (0, .ref (X.1 0)), (1, .int x1)] dX4_numbers_43 rfl rfl (Nat.le_of_ble_eq_true rfl) rfl ?_
            refine z_goto S (tgt := 4) dX4_numbers_46 (by decide) ?_
            exact z_lv [2, 3, 1, 0] rfl (ih _ _ _ h)
set_option maxHeartbeats 4000000 in
set_option maxRecDepth 100000 in
theorem c_X4_numbers (l : Launch) (D : va_G) (X : zE) (z0 : zV) (a0 : Int32) (hinj : zw_inj 9 X.1) {r : Int32} (h : f_X4_numbers z0 a0 = some r) : zMr l yX4_numbers wsX4_numbers (zrm 3 65) D 9 X (zc shM X z0) [.ref (X.1 0), .int a0] (some (.int r)) := by
  rw [f_X4_numbers] at h
  refine z_start_r (cc := cX4_numbers) (maxL := 4) (ret := (some .int)) (by decide) rfl (Nat.le_of_ble_eq_true rfl) hinj ?_
  intro p e s m below meth c S
  refine z_iconst (v := (nI 0)) S dX4_numbers_0 (by decide) ?_
  refine z_istore_n S [(2, .int (nI 0)), (0, .ref (X.1 0)), (1, .int a0)] dX4_numbers_1 rfl (Nat.le_of_ble_eq_true rfl) rfl ?_
  refine z_iconst (v := (nI 1)) S dX4_numbers_2 (by decide) ?_
  refine z_istore_n S [(3, .int (nI 1)), (2, .int (nI 0)), (0, .ref (X.1 0)), (1, .int a0)] dX4_numbers_3 rfl (Nat.le_of_ble_eq_true rfl) rfl ?_
  exact z_lv [2, 3, 1, 0] rfl (tl_X4_numbers_4 S _ _ _ _ h)
/-! SoldLettersModel.isSolved: a walk -/
theorem hd_X4_isSolved : yX4_isSolved.cls = RX4 ∧ yX4_isSolved.cls ≠ "java/lang/invoke/MethodHandle" ∧ yX4_isSolved.cls ≠ "java/lang/invoke/VarHandle" ∧ (parseMethodDescriptor yX4_isSolved.desc).map (fun d => d.parameters.length) = some 0 := by decide +kernel
theorem m0_X4_isSolved : Cond.fieldLink RX4 7 RX4 (TX4 0).2.1 (TX4 0).2.2.1 ∈ wsX4_isSolved := by decide +kernel
theorem m1_X4_isSolved : ∀ w ∈ u_ws RX4 TX4 12, w ∈ wsX4_isSolved := by decide +kernel
set_option maxHeartbeats 4000000 in
set_option maxRecDepth 100000 in
theorem tl_X4_isSolved_15 {l : Launch} {D : va_G} {X : zE} {p : Program} {e : Env} {s : State} {m : MethodId} {args : Array Value} {below : List Frame} {meth : Method} {c : Code} (S : zS p m meth c cX4_isSolved 3 (some .boolean) s args wsX4_isSolved RX4 D 9 X) {z0 : zV} {r : Int32} : ∀ (n_ : Nat), ∀ (x1 : Int32) (x2 : Int32), l_X4_isSolved_15 z0 n_ x1 x2 = some r → Zj false D 9 X p l e (zrm 3 63) s m args below meth c (MQ below (zQr (some (.int r))) args s 0 0 (fun _ => False)) 3 15 [(0, .ref (X.1 0)), (1, .int x1), (2, .int x2)] [] (zc shM X z0) := by
  intro n_
  induction n_ with
  | zero =>
    intro x1 x2 h
    cases h
  | succ n_ ih =>
    intro x1 x2 h
    rw [l_X4_isSolved_15] at h
    refine z_iload_n S 2 dX4_isSolved_15 rfl rfl ?_
    refine z_bipush (v := (nI 49)) S dX4_isSolved_16 (by decide) ?_
    refine z_icmp_ge S (tgt := 65) dX4_isSolved_18 (by decide) h (fun h => ?_) (fun h => ?_)
    · refine z_iload_n S 1 dX4_isSolved_65 rfl rfl ?_
      exact z_zret_r S dX4_isSolved_66 h
    · refine z_iload_n S 1 dX4_isSolved_21 rfl rfl ?_
      refine z_if_eq S (tgt := 57) dX4_isSolved_22 (by decide) h (fun h => ?_) (fun h => ?_)
      · refine z_iconst (v := (nI 0)) S dX4_isSolved_57 (by decide) ?_
        refine z_istore_n S [(1, .int (nI 0)), (0, .ref (X.1 0)), (2, .int x2)] dX4_isSolved_58 rfl (Nat.le_of_ble_eq_true rfl) rfl ?_
        refine z_iinc S 2 [(2, .int (x2 + nI 1)), (1, .int (nI 0)), (0, .ref (X.1 0))] dX4_isSolved_59 rfl rfl (Nat.le_of_ble_eq_true rfl) rfl ?_
        refine z_goto S (tgt := 15) dX4_isSolved_62 (by decide) ?_
        exact z_lv [2, 1, 0] rfl (ih _ _ h)
      · refine z_aload_n S 0 dX4_isSolved_25 rfl rfl ?_
        refine z_get S (C := RX4) (T := TX4) (N := 12) (ci := 4) 0 m0_X4_isSolved m1_X4_isSolved (Nat.le_of_ble_eq_true rfl) (cM_0 X z0) rfl (Nat.le_of_ble_eq_true rfl) rfl rfl dX4_isSolved_26 ?_
        refine z_iconst (v := (nI 0)) S dX4_isSolved_29 (by decide) ?_
        refine z_iload_n S 2 dX4_isSolved_30 rfl rfl ?_
        refine z_iadd S dX4_isSolved_31 ?_
        refine z_iald S (Nat.le_of_ble_eq_true rfl) (cM_1 X z0) dX4_isSolved_32 h (fun v_32 h => ?_)
        refine z_iconst (v := (-1)) S dX4_isSolved_33 (by decide) ?_
        refine z_icmp_eq S (tgt := 53) dX4_isSolved_34 (by decide) h (fun h => ?_) (fun h => ?_)
        · refine z_iconst (v := (nI 1)) S dX4_isSolved_53 (by decide) ?_
          refine z_goto S (tgt := 58) dX4_isSolved_54 (by decide) ?_
          refine z_istore_n S [(1, .int (nI 1)), (0, .ref (X.1 0)), (2, .int x2)] dX4_isSolved_58 rfl (Nat.le_of_ble_eq_true rfl) rfl ?_
          refine z_iinc S 2 [(2, .int (x2 + nI 1)), (1, .int (nI 1)), (0, .ref (X.1 0))] dX4_isSolved_59 rfl rfl (Nat.le_of_ble_eq_true rfl) rfl ?_
          refine z_goto S (tgt := 15) dX4_isSolved_62 (by decide) ?_
          exact z_lv [2, 1, 0] rfl (ih _ _ h)
        · refine z_aload_n S 0 dX4_isSolved_37 rfl rfl ?_
          refine z_iload_n S 2 dX4_isSolved_38 rfl rfl ?_
          obtain ⟨v_39, hv_39, h⟩ := ob_some h
          refine z_callV_r (As := [.int x2]) S (c_X4_guessAt l D X _ _ S.2.2.1 hv_39) (cwV 1 S.1.2.2.2.2 gX4_isSolved_X4_guessAt rfl rfl rfl hd_X4_guessAt ⟨Nat.le_of_ble_eq_true rfl, Nat.le_of_ble_eq_true rfl⟩) (Nat.le_of_ble_eq_true rfl) (cM_0 X z0) rfl rfl rfl (Nat.le_of_ble_eq_true rfl) rfl dX4_isSolved_39 ?_
          refine z_aload_n S 0 dX4_isSolved_42 rfl rfl ?_
          refine z_get S (C := RX4) (T := TX4) (N := 12) (ci := 4) 0 m0_X4_isSolved m1_X4_isSolved (Nat.le_of_ble_eq_true rfl) (cM_0 X z0) rfl (Nat.le_of_ble_eq_true rfl) rfl rfl dX4_isSolved_43 ?_
          refine z_iconst (v := (nI 0)) S dX4_isSolved_46 (by decide) ?_
          refine z_iload_n S 2 dX4_isSolved_47 rfl rfl ?_
          refine z_iadd S dX4_isSolved_48 ?_
          refine z_iald S (Nat.le_of_ble_eq_true rfl) (cM_1 X z0) dX4_isSolved_49 h (fun v_49 h => ?_)
          refine z_icmp_ne S (tgt := 57) dX4_isSolved_50 (by decide) h (fun h => ?_) (fun h => ?_)
          · refine z_iconst (v := (nI 0)) S dX4_isSolved_57 (by decide) ?_
            refine z_istore_n S [(1, .int (nI 0)), (0, .ref (X.1 0)), (2, .int x2)] dX4_isSolved_58 rfl (Nat.le_of_ble_eq_true rfl) rfl ?_
            refine z_iinc S 2 [(2, .int (x2 + nI 1)), (1, .int (nI 0)), (0, .ref (X.1 0))] dX4_isSolved_59 rfl rfl (Nat.le_of_ble_eq_true rfl) rfl ?_
            refine z_goto S (tgt := 15) dX4_isSolved_62 (by decide) ?_
            exact z_lv [2, 1, 0] rfl (ih _ _ h)
          · refine z_iconst (v := (nI 1)) S dX4_isSolved_53 (by decide) ?_
            refine z_goto S (tgt := 58) dX4_isSolved_54 (by decide) ?_
            refine z_istore_n S [(1, .int (nI 1)), (0, .ref (X.1 0)), (2, .int x2)] dX4_isSolved_58 rfl (Nat.le_of_ble_eq_true rfl) rfl ?_
            refine z_iinc S 2 [(2, .int (x2 + nI 1)), (1, .int (nI 1)), (0, .ref (X.1 0))] dX4_isSolved_59 rfl rfl (Nat.le_of_ble_eq_true rfl) rfl ?_
            refine z_goto S (tgt := 15) dX4_isSolved_62 (by decide) ?_
            exact z_lv [2, 1, 0] rfl (ih _ _ h)
set_option maxHeartbeats 4000000 in
set_option maxRecDepth 100000 in
theorem c_X4_isSolved (l : Launch) (D : va_G) (X : zE) (z0 : zV) (hinj : zw_inj 9 X.1) {r : Int32} (h : f_X4_isSolved z0 = some r) : zMr l yX4_isSolved wsX4_isSolved (zrm 3 63) D 9 X (zc shM X z0) [.ref (X.1 0)] (some (.int r)) := by
  rw [f_X4_isSolved] at h
  refine z_start_r (cc := cX4_isSolved) (maxL := 3) (ret := (some .boolean)) (by decide) rfl (Nat.le_of_ble_eq_true rfl) hinj ?_
  intro p e s m below meth c S
  refine z_aload_n S 0 dX4_isSolved_0 rfl rfl ?_
  obtain ⟨v_1, hv_1, h⟩ := ob_some h
  refine z_callV_r (As := []) S (c_X4_letterCells l D X _ S.2.2.1 hv_1) (cwV 0 S.1.2.2.2.2 gX4_isSolved_X4_letterCells rfl rfl rfl hd_X4_letterCells ⟨Nat.le_of_ble_eq_true rfl, Nat.le_of_ble_eq_true rfl⟩) (Nat.le_of_ble_eq_true rfl) (cM_0 X z0) rfl rfl rfl (Nat.le_of_ble_eq_true rfl) rfl dX4_isSolved_1 ?_
  refine z_if_le S (tgt := 11) dX4_isSolved_4 (by decide) h (fun h => ?_) (fun h => ?_)
  · refine z_iconst (v := (nI 0)) S dX4_isSolved_11 (by decide) ?_
    refine z_istore_n S [(1, .int (nI 0)), (0, .ref (X.1 0))] dX4_isSolved_12 rfl (Nat.le_of_ble_eq_true rfl) rfl ?_
    refine z_iconst (v := (nI 0)) S dX4_isSolved_13 (by decide) ?_
    refine z_istore_n S [(2, .int (nI 0)), (1, .int (nI 0)), (0, .ref (X.1 0))] dX4_isSolved_14 rfl (Nat.le_of_ble_eq_true rfl) rfl ?_
    exact z_lv [2, 1, 0] rfl (tl_X4_isSolved_15 S _ _ _ h)
  · refine z_iconst (v := (nI 1)) S dX4_isSolved_7 (by decide) ?_
    refine z_goto S (tgt := 12) dX4_isSolved_8 (by decide) ?_
    refine z_istore_n S [(1, .int (nI 1)), (0, .ref (X.1 0))] dX4_isSolved_12 rfl (Nat.le_of_ble_eq_true rfl) rfl ?_
    refine z_iconst (v := (nI 0)) S dX4_isSolved_13 (by decide) ?_
    refine z_istore_n S [(2, .int (nI 0)), (1, .int (nI 1)), (0, .ref (X.1 0))] dX4_isSolved_14 rfl (Nat.le_of_ble_eq_true rfl) rfl ?_
    exact z_lv [2, 1, 0] rfl (tl_X4_isSolved_15 S _ _ _ h)
/-! SoldLettersModel.count: a walk -/
theorem hd_X4_count : yX4_count.cls = RX4 ∧ yX4_count.cls ≠ "java/lang/invoke/MethodHandle" ∧ yX4_count.cls ≠ "java/lang/invoke/VarHandle" ∧ (parseMethodDescriptor yX4_count.desc).map (fun d => d.parameters.length) = some 1 := by decide +kernel
theorem m0_X4_count : Cond.fieldLink RX4 7 RX4 (TX4 0).2.1 (TX4 0).2.2.1 ∈ wsX4_count := by decide +kernel
theorem m1_X4_count : ∀ w ∈ u_ws RX4 TX4 12, w ∈ wsX4_count := by decide +kernel
theorem m2_X4_count : Cond.fieldLink RX4 37 RX4 (TX4 3).2.1 (TX4 3).2.2.1 ∈ wsX4_count := by decide +kernel
theorem m3_X4_count : Cond.fieldLink RX4 88 RX4 (TX4 11).2.1 (TX4 11).2.2.1 ∈ wsX4_count := by decide +kernel
set_option maxHeartbeats 4000000 in
set_option maxRecDepth 100000 in
theorem c_X4_count (l : Launch) (D : va_G) (X : zE) (z0 : zV) (a0 : Int32) (hinj : zw_inj 9 X.1) {r : Int32} {z1 : zV} (h : f_X4_count z0 a0 = some (r, z1)) : zMw l yX4_count wsX4_count (zrm 4 88) D 9 X (zc shM X z0) [.ref (X.1 0), .int a0] (some (.int r)) (zc shM X z1) := by
  rw [f_X4_count] at h
  refine z_start_w (cc := cX4_count) (maxL := 2) (ret := (some .int)) (by decide) rfl (Nat.le_of_ble_eq_true rfl) hinj ?_
  intro p e s m below meth c S
  refine z_iload_n S 1 dX4_count_0 rfl rfl ?_
  by_cases c0 : a0 = nI 0
  · have h := (zif h).1 c0
    refine z_tableIn S (tgt := 72) c0 dX4_count_1 (by decide) (by decide) rfl (by decide) ?_
    refine z_aload_n S 0 dX4_count_72 rfl rfl ?_
    obtain ⟨v_73, hv_73, h⟩ := ob_some h
    refine z_callV_r (As := []) S (c_X4_letterCells l D X _ S.2.2.1 hv_73) (cwV 0 S.1.2.2.2.2 gX4_count_X4_letterCells rfl rfl rfl hd_X4_letterCells ⟨Nat.le_of_ble_eq_true rfl, Nat.le_of_ble_eq_true rfl⟩) (Nat.le_of_ble_eq_true rfl) (cM_0 X z0) rfl rfl rfl (Nat.le_of_ble_eq_true rfl) rfl dX4_count_73 ?_
    exact z_iret_w S dX4_count_76 h
  have h := (zif h).2 c0
  by_cases c1 : a0 = nI 1
  · have h := (zif h).1 c1
    refine z_tableIn S (tgt := 77) c1 dX4_count_1 (by decide) (by decide) rfl (by decide) ?_
    refine z_aload_n S 0 dX4_count_77 rfl rfl ?_
    obtain ⟨v_78, z_78, hv_78, h⟩ := bd2_some h
    refine z_callV_w (As := []) S (c_X4_wordsNow l D X _ S.2.2.1 hv_78) (cwV 0 S.1.2.2.2.2 gX4_count_X4_wordsNow rfl rfl rfl hd_X4_wordsNow ⟨Nat.le_of_ble_eq_true rfl, Nat.le_of_ble_eq_true rfl⟩) (Nat.le_of_ble_eq_true rfl) (cM_0 X z0) rfl rfl rfl (Nat.le_of_ble_eq_true rfl) rfl dX4_count_78 ?_
    exact z_iret_w S dX4_count_81 h
  have h := (zif h).2 c1
  by_cases c2 : a0 = nI 2
  · have h := (zif h).1 c2
    refine z_tableIn S (tgt := 82) c2 dX4_count_1 (by decide) (by decide) rfl (by decide) ?_
    refine z_aload_n S 0 dX4_count_82 rfl rfl ?_
    refine z_get S (C := RX4) (T := TX4) (N := 12) (ci := 4) 0 m0_X4_count m1_X4_count (Nat.le_of_ble_eq_true rfl) (cM_0 X z0) rfl (Nat.le_of_ble_eq_true rfl) rfl rfl dX4_count_83 ?_
    refine z_bipush (v := (nI 106)) S dX4_count_86 (by decide) ?_
    refine z_iald S (Nat.le_of_ble_eq_true rfl) (cM_1 X z0) dX4_count_88 h (fun v_88 h => ?_)
    exact z_iret_w S dX4_count_89 h
  have h := (zif h).2 c2
  by_cases c3 : a0 = nI 3
  · have h := (zif h).1 c3
    refine z_tableIn S (tgt := 90) c3 dX4_count_1 (by decide) (by decide) rfl (by decide) ?_
    refine z_aload_n S 0 dX4_count_90 rfl rfl ?_
    refine z_get S (C := RX4) (T := TX4) (N := 12) (ci := 4) 0 m0_X4_count m1_X4_count (Nat.le_of_ble_eq_true rfl) (cM_0 X z0) rfl (Nat.le_of_ble_eq_true rfl) rfl rfl dX4_count_91 ?_
    refine z_bipush (v := (nI 105)) S dX4_count_94 (by decide) ?_
    refine z_iald S (Nat.le_of_ble_eq_true rfl) (cM_1 X z0) dX4_count_96 h (fun v_96 h => ?_)
    exact z_iret_w S dX4_count_97 h
  have h := (zif h).2 c3
  by_cases c4 : a0 = nI 4
  · have h := (zif h).1 c4
    refine z_tableIn S (tgt := 98) c4 dX4_count_1 (by decide) (by decide) rfl (by decide) ?_
    refine z_aload_n S 0 dX4_count_98 rfl rfl ?_
    refine z_iconst (v := (nI 0)) S dX4_count_99 (by decide) ?_
    obtain ⟨v_100, hv_100, h⟩ := ob_some h
    refine z_callV_r (As := [.int (nI 0)]) S (c_X4_numbers l D X _ _ S.2.2.1 hv_100) (cwV 1 S.1.2.2.2.2 gX4_count_X4_numbers rfl rfl rfl hd_X4_numbers ⟨Nat.le_of_ble_eq_true rfl, Nat.le_of_ble_eq_true rfl⟩) (Nat.le_of_ble_eq_true rfl) (cM_0 X z0) rfl rfl rfl (Nat.le_of_ble_eq_true rfl) rfl dX4_count_100 ?_
    exact z_iret_w S dX4_count_103 h
  have h := (zif h).2 c4
  by_cases c5 : a0 = nI 5
  · have h := (zif h).1 c5
    refine z_tableIn S (tgt := 104) c5 dX4_count_1 (by decide) (by decide) rfl (by decide) ?_
    refine z_aload_n S 0 dX4_count_104 rfl rfl ?_
    refine z_iconst (v := (nI 1)) S dX4_count_105 (by decide) ?_
    obtain ⟨v_106, hv_106, h⟩ := ob_some h
    refine z_callV_r (As := [.int (nI 1)]) S (c_X4_numbers l D X _ _ S.2.2.1 hv_106) (cwV 1 S.1.2.2.2.2 gX4_count_X4_numbers rfl rfl rfl hd_X4_numbers ⟨Nat.le_of_ble_eq_true rfl, Nat.le_of_ble_eq_true rfl⟩) (Nat.le_of_ble_eq_true rfl) (cM_0 X z0) rfl rfl rfl (Nat.le_of_ble_eq_true rfl) rfl dX4_count_106 ?_
    exact z_iret_w S dX4_count_109 h
  have h := (zif h).2 c5
  by_cases c6 : a0 = nI 6
  · have h := (zif h).1 c6
    refine z_tableIn S (tgt := 110) c6 dX4_count_1 (by decide) (by decide) rfl (by decide) ?_
    refine z_aload_n S 0 dX4_count_110 rfl rfl ?_
    obtain ⟨v_111, hv_111, h⟩ := ob_some h
    refine z_callV_r (As := []) S (c_X4_guessedCells l D X _ S.2.2.1 hv_111) (cwV 0 S.1.2.2.2.2 gX4_count_X4_guessedCells rfl rfl rfl hd_X4_guessedCells ⟨Nat.le_of_ble_eq_true rfl, Nat.le_of_ble_eq_true rfl⟩) (Nat.le_of_ble_eq_true rfl) (cM_0 X z0) rfl rfl rfl (Nat.le_of_ble_eq_true rfl) rfl dX4_count_111 ?_
    exact z_iret_w S dX4_count_114 h
  have h := (zif h).2 c6
  by_cases c7 : a0 = nI 7
  · have h := (zif h).1 c7
    refine z_tableIn S (tgt := 115) c7 dX4_count_1 (by decide) (by decide) rfl (by decide) ?_
    refine z_aload_n S 0 dX4_count_115 rfl rfl ?_
    obtain ⟨v_116, hv_116, h⟩ := ob_some h
    refine z_callV_r (As := []) S (c_X4_isSolved l D X _ S.2.2.1 hv_116) (cwV 0 S.1.2.2.2.2 gX4_count_X4_isSolved rfl rfl rfl hd_X4_isSolved ⟨Nat.le_of_ble_eq_true rfl, Nat.le_of_ble_eq_true rfl⟩) (Nat.le_of_ble_eq_true rfl) (cM_0 X z0) rfl rfl rfl (Nat.le_of_ble_eq_true rfl) rfl dX4_count_116 ?_
    refine z_if_eq S (tgt := 126) dX4_count_119 (by decide) h (fun h => ?_) (fun h => ?_)
    · refine z_iconst (v := (nI 0)) S dX4_count_126 (by decide) ?_
      exact z_iret_w S dX4_count_127 h
    · refine z_iconst (v := (nI 1)) S dX4_count_122 (by decide) ?_
      refine z_goto S (tgt := 127) dX4_count_123 (by decide) ?_
      exact z_iret_w S dX4_count_127 h
  have h := (zif h).2 c7
  by_cases c8 : a0 = nI 8
  · have h := (zif h).1 c8
    refine z_tableIn S (tgt := 128) c8 dX4_count_1 (by decide) (by decide) rfl (by decide) ?_
    refine z_aload_n S 0 dX4_count_128 rfl rfl ?_
    refine z_get S (C := RX4) (T := TX4) (N := 12) (ci := 4) 0 m0_X4_count m1_X4_count (Nat.le_of_ble_eq_true rfl) (cM_0 X z0) rfl (Nat.le_of_ble_eq_true rfl) rfl rfl dX4_count_129 ?_
    refine z_bipush (v := (nI 107)) S dX4_count_132 (by decide) ?_
    refine z_iald S (Nat.le_of_ble_eq_true rfl) (cM_1 X z0) dX4_count_134 h (fun v_134 h => ?_)
    exact z_iret_w S dX4_count_135 h
  have h := (zif h).2 c8
  by_cases c9 : a0 = nI 9
  · have h := (zif h).1 c9
    refine z_tableIn S (tgt := 136) c9 dX4_count_1 (by decide) (by decide) rfl (by decide) ?_
    refine z_aload_n S 0 dX4_count_136 rfl rfl ?_
    refine z_get S (C := RX4) (T := TX4) (N := 12) (ci := 4) 0 m0_X4_count m1_X4_count (Nat.le_of_ble_eq_true rfl) (cM_0 X z0) rfl (Nat.le_of_ble_eq_true rfl) rfl rfl dX4_count_137 ?_
    refine z_bipush (v := (nI 108)) S dX4_count_140 (by decide) ?_
    refine z_iald S (Nat.le_of_ble_eq_true rfl) (cM_1 X z0) dX4_count_142 h (fun v_142 h => ?_)
    exact z_iret_w S dX4_count_143 h
  have h := (zif h).2 c9
  by_cases c10 : a0 = nI 10
  · have h := (zif h).1 c10
    refine z_tableIn S (tgt := 144) c10 dX4_count_1 (by decide) (by decide) rfl (by decide) ?_
    refine z_aload_n S 0 dX4_count_144 rfl rfl ?_
    refine z_get S (C := RX4) (T := TX4) (N := 12) (ci := 4) 0 m0_X4_count m1_X4_count (Nat.le_of_ble_eq_true rfl) (cM_0 X z0) rfl (Nat.le_of_ble_eq_true rfl) rfl rfl dX4_count_145 ?_
    refine z_bipush (v := (nI 49)) S dX4_count_148 (by decide) ?_
    refine z_iald S (Nat.le_of_ble_eq_true rfl) (cM_1 X z0) dX4_count_150 h (fun v_150 h => ?_)
    exact z_iret_w S dX4_count_151 h
  have h := (zif h).2 c10
  by_cases c11 : a0 = nI 11
  · have h := (zif h).1 c11
    refine z_tableIn S (tgt := 152) c11 dX4_count_1 (by decide) (by decide) rfl (by decide) ?_
    refine z_aload_n S 0 dX4_count_152 rfl rfl ?_
    refine z_get S (C := RX4) (T := TX4) (N := 12) (ci := 4) 0 m0_X4_count m1_X4_count (Nat.le_of_ble_eq_true rfl) (cM_0 X z0) rfl (Nat.le_of_ble_eq_true rfl) rfl rfl dX4_count_153 ?_
    refine z_bipush (v := (nI 50)) S dX4_count_156 (by decide) ?_
    refine z_iald S (Nat.le_of_ble_eq_true rfl) (cM_1 X z0) dX4_count_158 h (fun v_158 h => ?_)
    exact z_iret_w S dX4_count_159 h
  have h := (zif h).2 c11
  by_cases c12 : a0 = nI 12
  · have h := (zif h).1 c12
    refine z_tableIn S (tgt := 160) c12 dX4_count_1 (by decide) (by decide) rfl (by decide) ?_
    refine z_aload_n S 0 dX4_count_160 rfl rfl ?_
    refine z_get S (C := RX4) (T := TX4) (N := 12) (ci := 4) 3 m2_X4_count m1_X4_count (Nat.le_of_ble_eq_true rfl) (cM_0 X z0) rfl (Nat.le_of_ble_eq_true rfl) rfl rfl dX4_count_161 ?_
    exact z_iret_w S dX4_count_164 h
  have h := (zif h).2 c12
  by_cases c13 : a0 = nI 13
  · have h := (zif h).1 c13
    refine z_tableIn S (tgt := 165) c13 dX4_count_1 (by decide) (by decide) rfl (by decide) ?_
    refine z_aload_n S 0 dX4_count_165 rfl rfl ?_
    refine z_get S (C := RX4) (T := TX4) (N := 12) (ci := 4) 11 m3_X4_count m1_X4_count (Nat.le_of_ble_eq_true rfl) (cM_0 X z0) rfl (Nat.le_of_ble_eq_true rfl) rfl rfl dX4_count_166 ?_
    exact z_iret_w S dX4_count_169 h
  have h := (zif h).2 c13
  have e0 := lv_neT (a := 0) c0 rfl
  have e1 := lv_neT (a := 1) c1 rfl
  have e2 := lv_neT (a := 2) c2 rfl
  have e3 := lv_neT (a := 3) c3 rfl
  have e4 := lv_neT (a := 4) c4 rfl
  have e5 := lv_neT (a := 5) c5 rfl
  have e6 := lv_neT (a := 6) c6 rfl
  have e7 := lv_neT (a := 7) c7 rfl
  have e8 := lv_neT (a := 8) c8 rfl
  have e9 := lv_neT (a := 9) c9 rfl
  have e10 := lv_neT (a := 10) c10 rfl
  have e11 := lv_neT (a := 11) c11 rfl
  have e12 := lv_neT (a := 12) c12 rfl
  have e13 := lv_neT (a := 13) c13 rfl
  refine z_tableOut S (tgt := 170) dX4_count_1 (by omega) (by decide) ?_
  refine z_bipush (v := (-2)) S dX4_count_170 (by decide) ?_
  exact z_iret_w S dX4_count_172 h
