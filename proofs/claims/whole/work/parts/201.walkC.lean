/-! SoldLetters$Words.findInLine: a walk -/
theorem hd_X2_findInLine : yX2_findInLine.cls = RX2 ∧ yX2_findInLine.cls ≠ "java/lang/invoke/MethodHandle" ∧ yX2_findInLine.cls ≠ "java/lang/invoke/VarHandle" ∧ (parseMethodDescriptor yX2_findInLine.desc).map (fun d => d.parameters.length) = some 3 := by decide +kernel
set_option maxHeartbeats 4000000 in
set_option maxRecDepth 100000 in
theorem tj_X2_findInLine_37 {l : Launch} {D : va_G} {X : zE} {p : Program} {e : Env} {s : State} {m : MethodId} {args : Array Value} {below : List Frame} {meth : Method} {c : Code} (S : zS p m meth c cX2_findInLine 6 none s args wsX2_findInLine RX2 D 44 X) {z1 : zV} {k_6 : zV → Int32 → Int32 → Int32 → Int32 → Option (zV)} (hk_6 : ∀ (z0 : zV) (x2 : Int32) (x3 : Int32) (x4 : Int32) (x5 : Int32), k_6 z0 x2 x3 x4 x5 = some z1 → Zj true D 44 X p l e (zrm 1 23) s m args below meth c (MQ below (zQw D 44 X (zc shC X z1) none) args s 0 0 (zw_A 44 X.1)) 6 6 [(0, .ref (X.1 36)), (1, .ref (X.1 1)), (2, .int x2), (3, .int x3), (4, .int x4), (5, .int x5)] [] (zc shC X z0)) : ∀ (z0 : zV) (x2 : Int32) (x3 : Int32) (x4 : Int32) (x5 : Int32), j_X2_findInLine_37 k_6 z0 x2 x3 x4 x5 = some z1 → Zj true D 44 X p l e (zrm 1 23) s m args below meth c (MQ below (zQw D 44 X (zc shC X z1) none) args s 0 0 (zw_A 44 X.1)) 6 37 [(0, .ref (X.1 36)), (1, .ref (X.1 1)), (2, .int x2), (3, .int x3), (4, .int x4), (5, .int x5)] [] (zc shC X z0) := by
  intro z0 x2 x3 x4 x5 h
  rw [j_X2_findInLine_37] at h
  refine z_aload_n S 0 dX2_findInLine_37 rfl rfl ?_
  refine z_iload_n S 2 dX2_findInLine_38 rfl rfl ?_
  refine z_iload S 5 dX2_findInLine_39 rfl ?_
  refine z_iload S 4 dX2_findInLine_41 rfl ?_
  refine z_isub S dX2_findInLine_43 ?_
  refine z_iload_n S 3 dX2_findInLine_44 rfl rfl ?_
  refine z_imul S dX2_findInLine_45 ?_
  refine z_iadd S dX2_findInLine_46 ?_
  refine z_iload S 4 dX2_findInLine_47 rfl ?_
  refine z_iload_n S 3 dX2_findInLine_49 rfl rfl ?_
  obtain ⟨z_50, hv_50, h⟩ := ob_some h
  refine z_callV_w (As := [.int (x2 + ((x5 - x4) * x3)), .int x4, .int x3]) S (c_X2_append l D X _ _ _ _ S.2.2.1 hv_50) (cwV 3 S.1.2.2.2.2 gX2_findInLine_X2_append rfl rfl rfl hd_X2_append ⟨Nat.le_of_ble_eq_true rfl, Nat.le_of_ble_eq_true rfl⟩) (Nat.le_of_ble_eq_true rfl) (cC_36 X z0) rfl rfl rfl (Nat.le_of_ble_eq_true rfl) rfl dX2_findInLine_50 ?_
  refine z_iconst (v := (nI 0)) S dX2_findInLine_53 (by decide) ?_
  refine z_istore S [(4, .int (nI 0)), (0, .ref (X.1 36)), (1, .ref (X.1 1)), (2, .int x2), (3, .int x3), (5, .int x5)] dX2_findInLine_54 (Nat.le_of_ble_eq_true rfl) rfl ?_
  refine z_iinc S 5 [(5, .int (x5 + nI 1)), (4, .int (nI 0)), (0, .ref (X.1 36)), (1, .ref (X.1 1)), (2, .int x2), (3, .int x3)] dX2_findInLine_56 rfl rfl (Nat.le_of_ble_eq_true rfl) rfl ?_
  refine z_goto S (tgt := 6) dX2_findInLine_59 (by decide) ?_
  exact z_lv [2, 3, 4, 5, 1, 0] rfl (hk_6 _ _ _ _ _ h)
set_option maxHeartbeats 4000000 in
set_option maxRecDepth 100000 in
theorem tl_X2_findInLine_6 {l : Launch} {D : va_G} {X : zE} {p : Program} {e : Env} {s : State} {m : MethodId} {args : Array Value} {below : List Frame} {meth : Method} {c : Code} (S : zS p m meth c cX2_findInLine 6 none s args wsX2_findInLine RX2 D 44 X) {z1 : zV} : ∀ (n_ : Nat), ∀ (z0 : zV) (x2 : Int32) (x3 : Int32) (x4 : Int32) (x5 : Int32), l_X2_findInLine_6 n_ z0 x2 x3 x4 x5 = some z1 → Zj true D 44 X p l e (zrm 1 23) s m args below meth c (MQ below (zQw D 44 X (zc shC X z1) none) args s 0 0 (zw_A 44 X.1)) 6 6 [(0, .ref (X.1 36)), (1, .ref (X.1 1)), (2, .int x2), (3, .int x3), (4, .int x4), (5, .int x5)] [] (zc shC X z0) := by
  intro n_
  induction n_ with
  | zero =>
    intro z0 x2 x3 x4 x5 h
    cases h
  | succ n_ ih =>
    intro z0 x2 x3 x4 x5 h
    rw [l_X2_findInLine_6] at h
    refine z_iload S 5 dX2_findInLine_6 rfl ?_
    refine z_bipush (v := (nI 7)) S dX2_findInLine_8 (by decide) ?_
    refine z_icmp_gt S (tgt := 62) dX2_findInLine_10 (by decide) h (fun h => ?_) (fun h => ?_)
    · exact z_vret_w S dX2_findInLine_62 h
    · refine z_iload S 5 dX2_findInLine_13 rfl ?_
      refine z_bipush (v := (nI 7)) S dX2_findInLine_15 (by decide) ?_
      refine z_icmp_ge S (tgt := 37) dX2_findInLine_17 (by decide) h (fun h => ?_) (fun h => ?_)
      · exact z_lv [0, 1, 2, 3, 4, 5] rfl (tj_X2_findInLine_37 S ih _ _ _ _ _ h)
      · refine z_aload_n S 1 dX2_findInLine_20 rfl rfl ?_
        refine z_iload_n S 2 dX2_findInLine_21 rfl rfl ?_
        refine z_iload S 5 dX2_findInLine_22 rfl ?_
        refine z_iload_n S 3 dX2_findInLine_24 rfl rfl ?_
        refine z_imul S dX2_findInLine_25 ?_
        refine z_iadd S dX2_findInLine_26 ?_
        refine z_iald S (Nat.le_of_ble_eq_true rfl) (cC_1 X z0) dX2_findInLine_27 h (fun v_27 h => ?_)
        refine z_if_eq S (tgt := 37) dX2_findInLine_28 (by decide) h (fun h => ?_) (fun h => ?_)
        · exact z_lv [0, 1, 2, 3, 4, 5] rfl (tj_X2_findInLine_37 S ih _ _ _ _ _ h)
        · refine z_iinc S 4 [(4, .int (x4 + nI 1)), (0, .ref (X.1 36)), (1, .ref (X.1 1)), (2, .int x2), (3, .int x3), (5, .int x5)] dX2_findInLine_31 rfl rfl (Nat.le_of_ble_eq_true rfl) rfl ?_
          refine z_goto S (tgt := 56) dX2_findInLine_34 (by decide) ?_
          refine z_iinc S 5 [(5, .int (x5 + nI 1)), (4, .int (x4 + nI 1)), (0, .ref (X.1 36)), (1, .ref (X.1 1)), (2, .int x2), (3, .int x3)] dX2_findInLine_56 rfl rfl (Nat.le_of_ble_eq_true rfl) rfl ?_
          refine z_goto S (tgt := 6) dX2_findInLine_59 (by decide) ?_
          exact z_lv [2, 3, 4, 5, 1, 0] rfl (ih _ _ _ _ _ h)
set_option maxHeartbeats 4000000 in
set_option maxRecDepth 100000 in
theorem c_X2_findInLine (l : Launch) (D : va_G) (X : zE) (z0 : zV) (a1 : Int32) (a2 : Int32) (hinj : zw_inj 44 X.1) {z1 : zV} (h : f_X2_findInLine z0 a1 a2 = some z1) : zMw l yX2_findInLine wsX2_findInLine (zrm 1 23) D 44 X (zc shC X z0) [.ref (X.1 36), .ref (X.1 1), .int a1, .int a2] none (zc shC X z1) := by
  rw [f_X2_findInLine] at h
  refine z_start_w (cc := cX2_findInLine) (maxL := 6) (ret := none) (by decide) rfl (Nat.le_of_ble_eq_true rfl) hinj ?_
  intro p e s m below meth c S
  refine z_iconst (v := (nI 0)) S dX2_findInLine_0 (by decide) ?_
  refine z_istore S [(4, .int (nI 0)), (0, .ref (X.1 36)), (1, .ref (X.1 1)), (2, .int a1), (3, .int a2)] dX2_findInLine_1 (Nat.le_of_ble_eq_true rfl) rfl ?_
  refine z_iconst (v := (nI 0)) S dX2_findInLine_3 (by decide) ?_
  refine z_istore S [(5, .int (nI 0)), (4, .int (nI 0)), (0, .ref (X.1 36)), (1, .ref (X.1 1)), (2, .int a1), (3, .int a2)] dX2_findInLine_4 (Nat.le_of_ble_eq_true rfl) rfl ?_
  exact z_lv [2, 3, 4, 5, 1, 0] rfl (tl_X2_findInLine_6 S _ _ _ _ _ _ h)
/-! SoldLetters$Words.find: a walk -/
theorem hd_X2_find : yX2_find.cls = RX2 ∧ yX2_find.cls ≠ "java/lang/invoke/MethodHandle" ∧ yX2_find.cls ≠ "java/lang/invoke/VarHandle" ∧ (parseMethodDescriptor yX2_find.desc).map (fun d => d.parameters.length) = some 1 := by decide +kernel
theorem m0_X2_find : Cond.fieldLink RX2 21 RX2 (TX2 3).2.1 (TX2 3).2.2.1 ∈ wsX2_find := by decide +kernel
theorem m1_X2_find : ∀ w ∈ u_ws RX2 TX2 4, w ∈ wsX2_find := by decide +kernel
set_option maxHeartbeats 4000000 in
set_option maxRecDepth 100000 in
theorem tl_X2_find_31 {l : Launch} {D : va_G} {X : zE} {p : Program} {e : Env} {s : State} {m : MethodId} {args : Array Value} {below : List Frame} {meth : Method} {c : Code} (S : zS p m meth c cX2_find 3 none s args wsX2_find RX2 D 44 X) {z1 : zV} : ∀ (n_ : Nat), ∀ (z0 : zV) (x2 : Int32), l_X2_find_31 n_ z0 x2 = some z1 → Zj true D 44 X p l e (zrm 2 48) s m args below meth c (MQ below (zQw D 44 X (zc shC X z1) none) args s 0 0 (zw_A 44 X.1)) 3 31 [(0, .ref (X.1 36)), (1, .ref (X.1 1)), (2, .int x2)] [] (zc shC X z0) := by
  intro n_
  induction n_ with
  | zero =>
    intro z0 x2 h
    cases h
  | succ n_ ih =>
    intro z0 x2 h
    rw [l_X2_find_31] at h
    refine z_iload_n S 2 dX2_find_31 rfl rfl ?_
    refine z_bipush (v := (nI 7)) S dX2_find_32 (by decide) ?_
    refine z_icmp_ge S (tgt := 51) dX2_find_34 (by decide) h (fun h => ?_) (fun h => ?_)
    · exact z_vret_w S dX2_find_51 h
    · refine z_aload_n S 0 dX2_find_37 rfl rfl ?_
      refine z_aload_n S 1 dX2_find_38 rfl rfl ?_
      refine z_iload_n S 2 dX2_find_39 rfl rfl ?_
      refine z_bipush (v := (nI 7)) S dX2_find_40 (by decide) ?_
      obtain ⟨z_42, hv_42, h⟩ := ob_some h
      refine z_callV_w (As := [.ref (X.1 1), .int x2, .int (nI 7)]) S (c_X2_findInLine l D X _ _ _ S.2.2.1 hv_42) (cwV 3 S.1.2.2.2.2 gX2_find_X2_findInLine rfl rfl rfl hd_X2_findInLine ⟨Nat.le_of_ble_eq_true rfl, Nat.le_of_ble_eq_true rfl⟩) (Nat.le_of_ble_eq_true rfl) (cC_36 X z0) rfl rfl rfl (Nat.le_of_ble_eq_true rfl) rfl dX2_find_42 ?_
      refine z_iinc S 2 [(2, .int (x2 + nI 1)), (0, .ref (X.1 36)), (1, .ref (X.1 1))] dX2_find_45 rfl rfl (Nat.le_of_ble_eq_true rfl) rfl ?_
      refine z_goto S (tgt := 31) dX2_find_48 (by decide) ?_
      exact z_lv [1, 2, 0] rfl (ih _ _ h)
set_option maxHeartbeats 4000000 in
set_option maxRecDepth 100000 in
theorem tl_X2_find_7 {l : Launch} {D : va_G} {X : zE} {p : Program} {e : Env} {s : State} {m : MethodId} {args : Array Value} {below : List Frame} {meth : Method} {c : Code} (S : zS p m meth c cX2_find 3 none s args wsX2_find RX2 D 44 X) {z1 : zV} : ∀ (n_ : Nat), ∀ (z0 : zV) (x2 : Int32), l_X2_find_7 n_ z0 x2 = some z1 → Zj true D 44 X p l e (zrm 2 48) s m args below meth c (MQ below (zQw D 44 X (zc shC X z1) none) args s 0 0 (zw_A 44 X.1)) 3 7 [(0, .ref (X.1 36)), (1, .ref (X.1 1)), (2, .int x2)] [] (zc shC X z0) := by
  intro n_
  induction n_ with
  | zero =>
    intro z0 x2 h
    cases h
  | succ n_ ih =>
    intro z0 x2 h
    rw [l_X2_find_7] at h
    refine z_iload_n S 2 dX2_find_7 rfl rfl ?_
    refine z_bipush (v := (nI 7)) S dX2_find_8 (by decide) ?_
    refine z_icmp_ge S (tgt := 29) dX2_find_10 (by decide) h (fun h => ?_) (fun h => ?_)
    · refine z_iconst (v := (nI 0)) S dX2_find_29 (by decide) ?_
      refine z_istore_n S [(2, .int (nI 0)), (0, .ref (X.1 36)), (1, .ref (X.1 1))] dX2_find_30 rfl (Nat.le_of_ble_eq_true rfl) rfl ?_
      exact z_lv [1, 2, 0] rfl (tl_X2_find_31 S _ _ _ h)
    · refine z_aload_n S 0 dX2_find_13 rfl rfl ?_
      refine z_aload_n S 1 dX2_find_14 rfl rfl ?_
      refine z_iload_n S 2 dX2_find_15 rfl rfl ?_
      refine z_bipush (v := (nI 7)) S dX2_find_16 (by decide) ?_
      refine z_imul S dX2_find_18 ?_
      refine z_iconst (v := (nI 1)) S dX2_find_19 (by decide) ?_
      obtain ⟨z_20, hv_20, h⟩ := ob_some h
      refine z_callV_w (As := [.ref (X.1 1), .int (x2 * (nI 7)), .int (nI 1)]) S (c_X2_findInLine l D X _ _ _ S.2.2.1 hv_20) (cwV 3 S.1.2.2.2.2 gX2_find_X2_findInLine rfl rfl rfl hd_X2_findInLine ⟨Nat.le_of_ble_eq_true rfl, Nat.le_of_ble_eq_true rfl⟩) (Nat.le_of_ble_eq_true rfl) (cC_36 X z0) rfl rfl rfl (Nat.le_of_ble_eq_true rfl) rfl dX2_find_20 ?_
      refine z_iinc S 2 [(2, .int (x2 + nI 1)), (0, .ref (X.1 36)), (1, .ref (X.1 1))] dX2_find_23 rfl rfl (Nat.le_of_ble_eq_true rfl) rfl ?_
      refine z_goto S (tgt := 7) dX2_find_26 (by decide) ?_
      exact z_lv [1, 2, 0] rfl (ih _ _ h)
set_option maxHeartbeats 4000000 in
set_option maxRecDepth 100000 in
theorem c_X2_find (l : Launch) (D : va_G) (X : zE) (z0 : zV) (hinj : zw_inj 44 X.1) {z1 : zV} (h : f_X2_find z0 = some z1) : zMw l yX2_find wsX2_find (zrm 2 48) D 44 X (zc shC X z0) [.ref (X.1 36), .ref (X.1 1)] none (zc shC X z1) := by
  rw [f_X2_find] at h
  refine z_start_w (cc := cX2_find) (maxL := 3) (ret := none) (by decide) rfl (Nat.le_of_ble_eq_true rfl) hinj ?_
  intro p e s m below meth c S
  refine z_aload_n S 0 dX2_find_0 rfl rfl ?_
  refine z_iconst (v := (nI 0)) S dX2_find_1 (by decide) ?_
  refine z_put S (C := RX2) (T := TX2) (N := 4) (ci := 2) 3 tyX2_ok nmX2 m0_X2_find m1_X2_find (Nat.le_of_ble_eq_true rfl) (cC_36 X z0) rfl (Nat.le_of_ble_eq_true rfl) rfl rfl rfl rfl (Nat.le_of_ble_eq_true rfl) rfl dX2_find_2 h (fun z_2 h => ?_)
  refine z_iconst (v := (nI 0)) S dX2_find_5 (by decide) ?_
  refine z_istore_n S [(2, .int (nI 0)), (0, .ref (X.1 36)), (1, .ref (X.1 1))] dX2_find_6 rfl (Nat.le_of_ble_eq_true rfl) rfl ?_
  exact z_lv [1, 2, 0] rfl (tl_X2_find_7 S _ _ _ h)
/-! SoldLetters.setRow: a walk -/
theorem hd_X3_setRow : yX3_setRow.cls = RX3 ∧ yX3_setRow.cls ≠ "java/lang/invoke/MethodHandle" ∧ yX3_setRow.cls ≠ "java/lang/invoke/VarHandle" ∧ (parseMethodDescriptor yX3_setRow.desc).map (fun d => d.parameters.length) = some 1 := by decide +kernel
theorem m0_X3_setRow : Cond.fieldLink RX3 26 RX3 (TX3 2).2.1 (TX3 2).2.2.1 ∈ wsX3_setRow := by decide +kernel
theorem m1_X3_setRow : ∀ w ∈ u_ws RX3 TX3 7, w ∈ wsX3_setRow := by decide +kernel
theorem m2_X3_setRow : Cond.fieldLink RX3 12 RX3 (TX3 0).2.1 (TX3 0).2.2.1 ∈ wsX3_setRow := by decide +kernel
theorem m3_X3_setRow : Cond.fieldLink RX3 19 RX3 (TX3 1).2.1 (TX3 1).2.2.1 ∈ wsX3_setRow := by decide +kernel
theorem m4_X3_setRow : Cond.fieldLink RX3 48 RX0 (TX0 0).2.1 (TX0 0).2.2.1 ∈ wsX3_setRow := by decide +kernel
theorem m5_X3_setRow : ∀ w ∈ u_ws RX0 TX0 11, w ∈ wsX3_setRow := by decide +kernel
theorem m6_X3_setRow : Cond.fieldLink RX3 63 RX2 (TX2 3).2.1 (TX2 3).2.2.1 ∈ wsX3_setRow := by decide +kernel
theorem m7_X3_setRow : ∀ w ∈ u_ws RX2 TX2 4, w ∈ wsX3_setRow := by decide +kernel
set_option maxHeartbeats 4000000 in
set_option maxRecDepth 100000 in
theorem tl_X3_setRow_32 {l : Launch} {D : va_G} {X : zE} {p : Program} {e : Env} {s : State} {m : MethodId} {args : Array Value} {below : List Frame} {meth : Method} {c : Code} (S : zS p m meth c cX3_setRow 4 (some .int) s args wsX3_setRow RX3 D 44 X) {r : Int32} {z1 : zV} : ∀ (n_ : Nat), ∀ (z0 : zV) (x1 : Int32) (x3 : Int32), l_X3_setRow_32 n_ z0 x1 x3 = some (r, z1) → Zj true D 44 X p l e (zrm 3 104) s m args below meth c (MQ below (zQw D 44 X (zc shC X z1) (some (.int r))) args s 0 0 (zw_A 44 X.1)) 4 32 [(0, .ref (X.1 42)), (1, .int x1), (3, .int x3)] [] (zc shC X z0) := by
  intro n_
  induction n_ with
  | zero =>
    intro z0 x1 x3 h
    cases h
  | succ n_ ih =>
    intro z0 x1 x3 h
    rw [l_X3_setRow_32] at h
    refine z_iload_n S 2 dX3_setRow_32 rfl rfl ?_
    refine z_bipush (v := (nI 7)) S dX3_setRow_33 (by decide) ?_
    refine z_icmp_ge S (tgt := 66) dX3_setRow_35 (by decide) h (fun h => ?_) (fun h => ?_)
    · refine z_aload_n S 0 dX3_setRow_66 rfl rfl ?_
      refine z_get S (C := RX3) (T := TX3) (N := 7) (ci := 3) 0 m2_X3_setRow m1_X3_setRow (Nat.le_of_ble_eq_true rfl) (cC_42 X z0) rfl (Nat.le_of_ble_eq_true rfl) rfl rfl dX3_setRow_67 ?_
      obtain ⟨z_70, hv_70, h⟩ := ob_some h
      refine z_callV_w (As := []) S (c_X0_forgetGuesses l D X _ S.2.2.1 hv_70) (cwV 0 S.1.2.2.2.2 gX3_setRow_X0_forgetGuesses rfl rfl rfl hd_X0_forgetGuesses ⟨Nat.le_of_ble_eq_true rfl, Nat.le_of_ble_eq_true rfl⟩) (Nat.le_of_ble_eq_true rfl) (cC_0 X z0) rfl rfl rfl (Nat.le_of_ble_eq_true rfl) rfl dX3_setRow_70 ?_
      refine z_aload_n S 0 dX3_setRow_73 rfl rfl ?_
      refine z_get S (C := RX3) (T := TX3) (N := 7) (ci := 3) 1 m3_X3_setRow m1_X3_setRow (Nat.le_of_ble_eq_true rfl) (cC_42 X z_70) rfl (Nat.le_of_ble_eq_true rfl) rfl rfl dX3_setRow_74 ?_
      refine z_aload_n S 0 dX3_setRow_77 rfl rfl ?_
      refine z_get S (C := RX3) (T := TX3) (N := 7) (ci := 3) 0 m2_X3_setRow m1_X3_setRow (Nat.le_of_ble_eq_true rfl) (cC_42 X z_70) rfl (Nat.le_of_ble_eq_true rfl) rfl rfl dX3_setRow_78 ?_
      refine z_get S (C := RX0) (T := TX0) (N := 11) (ci := 0) 0 m4_X3_setRow m5_X3_setRow (Nat.le_of_ble_eq_true rfl) (cC_0 X z_70) rfl (Nat.le_of_ble_eq_true rfl) rfl rfl dX3_setRow_81 ?_
      obtain ⟨z_84, hv_84, h⟩ := ob_some h
      refine z_callV_w (As := [.ref (X.1 1)]) S (c_X2_find l D X _ S.2.2.1 hv_84) (cwV 1 S.1.2.2.2.2 gX3_setRow_X2_find rfl rfl rfl hd_X2_find ⟨Nat.le_of_ble_eq_true rfl, Nat.le_of_ble_eq_true rfl⟩) (Nat.le_of_ble_eq_true rfl) (cC_36 X z_70) rfl rfl rfl (Nat.le_of_ble_eq_true rfl) rfl dX3_setRow_84 ?_
      refine z_aload_n S 0 dX3_setRow_87 rfl rfl ?_
      refine z_get S (C := RX3) (T := TX3) (N := 7) (ci := 3) 1 m3_X3_setRow m1_X3_setRow (Nat.le_of_ble_eq_true rfl) (cC_42 X z_84) rfl (Nat.le_of_ble_eq_true rfl) rfl rfl dX3_setRow_88 ?_
      refine z_get S (C := RX2) (T := TX2) (N := 4) (ci := 2) 3 m6_X3_setRow m7_X3_setRow (Nat.le_of_ble_eq_true rfl) (cC_36 X z_84) rfl (Nat.le_of_ble_eq_true rfl) rfl rfl dX3_setRow_91 ?_
      exact z_iret_w S dX3_setRow_94 h
    · refine z_aload_n S 0 dX3_setRow_38 rfl rfl ?_
      refine z_get S (C := RX3) (T := TX3) (N := 7) (ci := 3) 0 m2_X3_setRow m1_X3_setRow (Nat.le_of_ble_eq_true rfl) (cC_42 X z0) rfl (Nat.le_of_ble_eq_true rfl) rfl rfl dX3_setRow_39 ?_
      refine z_get S (C := RX0) (T := TX0) (N := 11) (ci := 0) 0 m4_X3_setRow m5_X3_setRow (Nat.le_of_ble_eq_true rfl) (cC_0 X z0) rfl (Nat.le_of_ble_eq_true rfl) rfl rfl dX3_setRow_42 ?_
      refine z_iload_n S 1 dX3_setRow_45 rfl rfl ?_
      refine z_bipush (v := (nI 7)) S dX3_setRow_46 (by decide) ?_
      refine z_imul S dX3_setRow_48 ?_
      refine z_iload_n S 2 dX3_setRow_49 rfl rfl ?_
      refine z_iadd S dX3_setRow_50 ?_
      refine z_aload_n S 0 dX3_setRow_51 rfl rfl ?_
      refine z_get S (C := RX3) (T := TX3) (N := 7) (ci := 3) 2 m0_X3_setRow m1_X3_setRow (Nat.le_of_ble_eq_true rfl) (cC_42 X z0) rfl (Nat.le_of_ble_eq_true rfl) rfl rfl dX3_setRow_52 ?_
      refine z_iload_n S 2 dX3_setRow_55 rfl rfl ?_
      obtain ⟨v_56, hv_56, h⟩ := ob_some h
      refine z_callV_r (As := [.int x3]) S (c_X1_letterInRow l D X _ _ S.2.2.1 hv_56) (cwV 1 S.1.2.2.2.2 gX3_setRow_X1_letterInRow rfl rfl rfl hd_X1_letterInRow ⟨Nat.le_of_ble_eq_true rfl, Nat.le_of_ble_eq_true rfl⟩) (Nat.le_of_ble_eq_true rfl) (cC_40 X z0) rfl rfl rfl (Nat.le_of_ble_eq_true rfl) rfl dX3_setRow_56 ?_
      refine z_iast S (Nat.le_of_ble_eq_true rfl) (fun _ => rfl) dX3_setRow_59 h (fun z_59 h => ?_)
      refine z_iinc S 2 [(3, .int (x3 + nI 1)), (0, .ref (X.1 42)), (1, .int x1)] dX3_setRow_60 rfl rfl (Nat.le_of_ble_eq_true rfl) rfl ?_
      refine z_goto S (tgt := 32) dX3_setRow_63 (by decide) ?_
      exact z_lv [1, 2, 0] rfl (ih _ _ _ h)
set_option maxHeartbeats 4000000 in
set_option maxRecDepth 100000 in
theorem c_X3_setRow (l : Launch) (D : va_G) (X : zE) (z0 : zV) (a0 : Int32) (hinj : zw_inj 44 X.1) {r : Int32} {z1 : zV} (h : f_X3_setRow z0 a0 = some (r, z1)) : zMw l yX3_setRow wsX3_setRow (zrm 3 104) D 44 X (zc shC X z0) [.ref (X.1 42), .int a0] (some (.int r)) (zc shC X z1) := by
  rw [f_X3_setRow] at h
  refine z_start_w (cc := cX3_setRow) (maxL := 4) (ret := (some .int)) (by decide) rfl (Nat.le_of_ble_eq_true rfl) hinj ?_
  intro p e s m below meth c S
  refine z_iload_n S 1 dX3_setRow_0 rfl rfl ?_
  obtain ⟨v_1, hv_1, h⟩ := ob_some h
  refine z_callS_r (As := [.int a0]) S (c_X3_isInGrid l D X _ _ S.2.2.1 hv_1) (va_cwS 1 S.1.2.2.2.2 gX3_setRow_X3_isInGrid rfl rfl rfl hd_X3_isInGrid ⟨Nat.le_of_ble_eq_true rfl, Nat.le_of_ble_eq_true rfl⟩) rfl rfl (Nat.le_of_ble_eq_true rfl) rfl dX3_setRow_1 ?_
  refine z_if_ne S (tgt := 9) dX3_setRow_4 (by decide) h (fun h => ?_) (fun h => ?_)
  · refine z_aload_n S 0 dX3_setRow_9 rfl rfl ?_
    refine z_get S (C := RX3) (T := TX3) (N := 7) (ci := 3) 2 m0_X3_setRow m1_X3_setRow (Nat.le_of_ble_eq_true rfl) (cC_42 X z0) rfl (Nat.le_of_ble_eq_true rfl) rfl rfl dX3_setRow_10 ?_
    obtain ⟨v_13, hv_13, h⟩ := ob_some h
    refine z_callV_r (As := []) S (c_X1_faultAsRow l D X _ S.2.2.1 hv_13) (cwV 0 S.1.2.2.2.2 gX3_setRow_X1_faultAsRow rfl rfl rfl hd_X1_faultAsRow ⟨Nat.le_of_ble_eq_true rfl, Nat.le_of_ble_eq_true rfl⟩) (Nat.le_of_ble_eq_true rfl) (cC_40 X z0) rfl rfl rfl (Nat.le_of_ble_eq_true rfl) rfl dX3_setRow_13 ?_
    refine z_istore_n S [(2, .int v_13), (0, .ref (X.1 42)), (1, .int a0)] dX3_setRow_16 rfl (Nat.le_of_ble_eq_true rfl) rfl ?_
    refine z_iload_n S 0 dX3_setRow_17 rfl rfl ?_
    refine z_if_lt S (tgt := 26) dX3_setRow_18 (by decide) h (fun h => ?_) (fun h => ?_)
    · refine z_aload_n S 1 dX3_setRow_26 rfl rfl ?_
      obtain ⟨z_27, hv_27, h⟩ := ob_some h
      refine z_callV_w (As := []) S (c_X3_remember l D X _ S.2.2.1 hv_27) (cwV 0 S.1.2.2.2.2 gX3_setRow_X3_remember rfl rfl rfl hd_X3_remember ⟨Nat.le_of_ble_eq_true rfl, Nat.le_of_ble_eq_true rfl⟩) (Nat.le_of_ble_eq_true rfl) (cC_42 X z0) rfl rfl rfl (Nat.le_of_ble_eq_true rfl) rfl dX3_setRow_27 ?_
      refine z_iconst (v := (nI 0)) S dX3_setRow_30 (by decide) ?_
      refine z_istore_n S [(3, .int (nI 0)), (2, .int v_13), (0, .ref (X.1 42)), (1, .int a0)] dX3_setRow_31 rfl (Nat.le_of_ble_eq_true rfl) rfl ?_
      exact z_lv [2, 3, 0] rfl (tl_X3_setRow_32 S _ _ _ _ h)
    · refine z_bipush (v := (-100)) S dX3_setRow_21 (by decide) ?_
      refine z_iload_n S 0 dX3_setRow_23 rfl rfl ?_
      refine z_isub S dX3_setRow_24 ?_
      exact z_iret_w S dX3_setRow_25 h
  · refine z_iconst (v := (-1)) S dX3_setRow_7 (by decide) ?_
    exact z_iret_w S dX3_setRow_8 h
/-! SoldLetters.isFactor: a walk -/
theorem hd_X3_isFactor : yX3_isFactor.cls ≠ "java/lang/invoke/MethodHandle" ∧ yX3_isFactor.cls ≠ "java/lang/invoke/VarHandle" ∧ (parseMethodDescriptor yX3_isFactor.desc).map (fun d => d.parameters.length) = some 1 := by decide +kernel
set_option maxHeartbeats 4000000 in
set_option maxRecDepth 100000 in
theorem c_X3_isFactor (l : Launch) (D : va_G) (X : zE) (z0 : zV) (a0 : Int32) (hinj : zw_inj 44 X.1) {r : Int32} (h : f_X3_isFactor z0 a0 = some r) : zMr l yX3_isFactor wsX3_isFactor (zrm 0 0) D 44 X (zc shC X z0) [.int a0] (some (.int r)) := by
  rw [f_X3_isFactor] at h
  refine z_start_r (cc := cX3_isFactor) (maxL := 1) (ret := (some .boolean)) (by decide) rfl (Nat.le_of_ble_eq_true rfl) hinj ?_
  intro p e s m below meth c S
  refine z_iload_n S 0 dX3_isFactor_0 rfl rfl ?_
  refine z_iconst (v := (nI 1)) S dX3_isFactor_1 (by decide) ?_
  refine z_icmp_lt S (tgt := 28) dX3_isFactor_2 (by decide) h (fun h => ?_) (fun h => ?_)
  · refine z_iconst (v := (nI 0)) S dX3_isFactor_28 (by decide) ?_
    exact z_zret_r S dX3_isFactor_29 h
  · refine z_iload_n S 0 dX3_isFactor_5 rfl rfl ?_
    refine z_bipush (v := (nI 26)) S dX3_isFactor_6 (by decide) ?_
    refine z_icmp_ge S (tgt := 28) dX3_isFactor_8 (by decide) h (fun h => ?_) (fun h => ?_)
    · refine z_iconst (v := (nI 0)) S dX3_isFactor_28 (by decide) ?_
      exact z_zret_r S dX3_isFactor_29 h
    · refine z_iload_n S 0 dX3_isFactor_11 rfl rfl ?_
      refine z_iconst (v := (nI 2)) S dX3_isFactor_12 (by decide) ?_
      refine z_irem S dX3_isFactor_13 (by decide) ?_
      refine z_iconst (v := (nI 1)) S dX3_isFactor_14 (by decide) ?_
      refine z_icmp_ne S (tgt := 28) dX3_isFactor_15 (by decide) h (fun h => ?_) (fun h => ?_)
      · refine z_iconst (v := (nI 0)) S dX3_isFactor_28 (by decide) ?_
        exact z_zret_r S dX3_isFactor_29 h
      · refine z_iload_n S 0 dX3_isFactor_18 rfl rfl ?_
        refine z_bipush (v := (nI 13)) S dX3_isFactor_19 (by decide) ?_
        refine z_icmp_eq S (tgt := 28) dX3_isFactor_21 (by decide) h (fun h => ?_) (fun h => ?_)
        · refine z_iconst (v := (nI 0)) S dX3_isFactor_28 (by decide) ?_
          exact z_zret_r S dX3_isFactor_29 h
        · refine z_iconst (v := (nI 1)) S dX3_isFactor_24 (by decide) ?_
          refine z_goto S (tgt := 29) dX3_isFactor_25 (by decide) ?_
          exact z_zret_r S dX3_isFactor_29 h
/-! SoldLetters$State.numberOf: a walk -/
theorem hd_X0_numberOf : yX0_numberOf.cls = RX0 ∧ yX0_numberOf.cls ≠ "java/lang/invoke/MethodHandle" ∧ yX0_numberOf.cls ≠ "java/lang/invoke/VarHandle" ∧ (parseMethodDescriptor yX0_numberOf.desc).map (fun d => d.parameters.length) = some 1 := by decide +kernel
theorem m0_X0_numberOf : Cond.fieldLink RX0 28 RX0 (TX0 6).2.1 (TX0 6).2.2.1 ∈ wsX0_numberOf := by decide +kernel
theorem m1_X0_numberOf : ∀ w ∈ u_ws RX0 TX0 11, w ∈ wsX0_numberOf := by decide +kernel
theorem m2_X0_numberOf : Cond.fieldLink RX0 32 RX0 (TX0 7).2.1 (TX0 7).2.2.1 ∈ wsX0_numberOf := by decide +kernel
set_option maxHeartbeats 4000000 in
set_option maxRecDepth 100000 in
theorem c_X0_numberOf (l : Launch) (D : va_G) (X : zE) (z0 : zV) (a0 : Int32) (hinj : zw_inj 44 X.1) {r : Int32} (h : f_X0_numberOf z0 a0 = some r) : zMr l yX0_numberOf wsX0_numberOf (zrm 0 0) D 44 X (zc shC X z0) [.ref (X.1 0), .int a0] (some (.int r)) := by
  rw [f_X0_numberOf] at h
  refine z_start_r (cc := cX0_numberOf) (maxL := 2) (ret := (some .int)) (by decide) rfl (Nat.le_of_ble_eq_true rfl) hinj ?_
  intro p e s m below meth c S
  refine z_aload_n S 0 dX0_numberOf_0 rfl rfl ?_
  refine z_get S (C := RX0) (T := TX0) (N := 11) (ci := 0) 6 m0_X0_numberOf m1_X0_numberOf (Nat.le_of_ble_eq_true rfl) (cC_0 X z0) rfl (Nat.le_of_ble_eq_true rfl) rfl rfl dX0_numberOf_1 ?_
  refine z_iload_n S 1 dX0_numberOf_4 rfl rfl ?_
  refine z_bipush (v := (nI 97)) S dX0_numberOf_5 (by decide) ?_
  refine z_isub S dX0_numberOf_7 ?_
  refine z_imul S dX0_numberOf_8 ?_
  refine z_aload_n S 0 dX0_numberOf_9 rfl rfl ?_
  refine z_get S (C := RX0) (T := TX0) (N := 11) (ci := 0) 7 m2_X0_numberOf m1_X0_numberOf (Nat.le_of_ble_eq_true rfl) (cC_0 X z0) rfl (Nat.le_of_ble_eq_true rfl) rfl rfl dX0_numberOf_10 ?_
  refine z_iadd S dX0_numberOf_13 ?_
  refine z_bipush (v := (nI 26)) S dX0_numberOf_14 (by decide) ?_
  refine z_irem S dX0_numberOf_16 (by decide) ?_
  refine z_iconst (v := (nI 1)) S dX0_numberOf_17 (by decide) ?_
  refine z_iadd S dX0_numberOf_18 ?_
  exact z_iret_r S dX0_numberOf_19 h
/-! SoldLetters.setKey: a walk -/
theorem hd_X3_setKey : yX3_setKey.cls = RX3 ∧ yX3_setKey.cls ≠ "java/lang/invoke/MethodHandle" ∧ yX3_setKey.cls ≠ "java/lang/invoke/VarHandle" ∧ (parseMethodDescriptor yX3_setKey.desc).map (fun d => d.parameters.length) = some 2 := by decide +kernel
theorem m0_X3_setKey : Cond.fieldLink RX3 12 RX3 (TX3 0).2.1 (TX3 0).2.2.1 ∈ wsX3_setKey := by decide +kernel
theorem m1_X3_setKey : ∀ w ∈ u_ws RX3 TX3 7, w ∈ wsX3_setKey := by decide +kernel
theorem m2_X3_setKey : Cond.fieldLink RX3 70 RX0 (TX0 6).2.1 (TX0 6).2.2.1 ∈ wsX3_setKey := by decide +kernel
theorem m3_X3_setKey : ∀ w ∈ u_ws RX0 TX0 11, w ∈ wsX3_setKey := by decide +kernel
theorem m4_X3_setKey : Cond.fieldLink RX3 73 RX0 (TX0 7).2.1 (TX0 7).2.2.1 ∈ wsX3_setKey := by decide +kernel
set_option maxHeartbeats 4000000 in
set_option maxRecDepth 100000 in
theorem tj_X3_setKey_45 {l : Launch} {D : va_G} {X : zE} {p : Program} {e : Env} {s : State} {m : MethodId} {args : Array Value} {below : List Frame} {meth : Method} {c : Code} (S : zS p m meth c cX3_setKey 3 (some .int) s args wsX3_setKey RX3 D 44 X) {r : Int32} {z1 : zV} : ∀ (z0 : zV) (x1 : Int32) (x2 : Int32), j_X3_setKey_45 z0 x1 x2 = some (r, z1) → Zj true D 44 X p l e (zrm 3 104) s m args below meth c (MQ below (zQw D 44 X (zc shC X z1) (some (.int r))) args s 0 0 (zw_A 44 X.1)) 3 45 [(0, .ref (X.1 42)), (1, .int x1), (2, .int x2)] [] (zc shC X z0) := by
  intro z0 x1 x2 h
  rw [j_X3_setKey_45] at h
  refine z_aload_n S 0 dX3_setKey_45 rfl rfl ?_
  obtain ⟨z_46, hv_46, h⟩ := ob_some h
  refine z_callV_w (As := []) S (c_X3_remember l D X _ S.2.2.1 hv_46) (cwV 0 S.1.2.2.2.2 gX3_setKey_X3_remember rfl rfl rfl hd_X3_remember ⟨Nat.le_of_ble_eq_true rfl, Nat.le_of_ble_eq_true rfl⟩) (Nat.le_of_ble_eq_true rfl) (cC_42 X z0) rfl rfl rfl (Nat.le_of_ble_eq_true rfl) rfl dX3_setKey_46 ?_
  refine z_aload_n S 0 dX3_setKey_49 rfl rfl ?_
  refine z_get S (C := RX3) (T := TX3) (N := 7) (ci := 3) 0 m0_X3_setKey m1_X3_setKey (Nat.le_of_ble_eq_true rfl) (cC_42 X z_46) rfl (Nat.le_of_ble_eq_true rfl) rfl rfl dX3_setKey_50 ?_
  refine z_iload_n S 1 dX3_setKey_53 rfl rfl ?_
  refine z_put S (C := RX0) (T := TX0) (N := 11) (ci := 0) 6 tyX0_ok nmX0 m2_X3_setKey m3_X3_setKey (Nat.le_of_ble_eq_true rfl) (cC_0 X z_46) rfl (Nat.le_of_ble_eq_true rfl) rfl rfl rfl rfl (Nat.le_of_ble_eq_true rfl) rfl dX3_setKey_54 h (fun z_54 h => ?_)
  refine z_aload_n S 0 dX3_setKey_57 rfl rfl ?_
  refine z_get S (C := RX3) (T := TX3) (N := 7) (ci := 3) 0 m0_X3_setKey m1_X3_setKey (Nat.le_of_ble_eq_true rfl) (cC_42 X z_54) rfl (Nat.le_of_ble_eq_true rfl) rfl rfl dX3_setKey_58 ?_
  refine z_iload_n S 2 dX3_setKey_61 rfl rfl ?_
  refine z_put S (C := RX0) (T := TX0) (N := 11) (ci := 0) 7 tyX0_ok nmX0 m4_X3_setKey m3_X3_setKey (Nat.le_of_ble_eq_true rfl) (cC_0 X z_54) rfl (Nat.le_of_ble_eq_true rfl) rfl rfl rfl rfl (Nat.le_of_ble_eq_true rfl) rfl dX3_setKey_62 h (fun z_62 h => ?_)
  refine z_aload_n S 0 dX3_setKey_65 rfl rfl ?_
  refine z_get S (C := RX3) (T := TX3) (N := 7) (ci := 3) 0 m0_X3_setKey m1_X3_setKey (Nat.le_of_ble_eq_true rfl) (cC_42 X z_62) rfl (Nat.le_of_ble_eq_true rfl) rfl rfl dX3_setKey_66 ?_
  obtain ⟨z_69, hv_69, h⟩ := ob_some h
  refine z_callV_w (As := []) S (c_X0_forgetGuesses l D X _ S.2.2.1 hv_69) (cwV 0 S.1.2.2.2.2 gX3_setKey_X0_forgetGuesses rfl rfl rfl hd_X0_forgetGuesses ⟨Nat.le_of_ble_eq_true rfl, Nat.le_of_ble_eq_true rfl⟩) (Nat.le_of_ble_eq_true rfl) (cC_0 X z_62) rfl rfl rfl (Nat.le_of_ble_eq_true rfl) rfl dX3_setKey_69 ?_
  refine z_aload_n S 0 dX3_setKey_72 rfl rfl ?_
  refine z_get S (C := RX3) (T := TX3) (N := 7) (ci := 3) 0 m0_X3_setKey m1_X3_setKey (Nat.le_of_ble_eq_true rfl) (cC_42 X z_69) rfl (Nat.le_of_ble_eq_true rfl) rfl rfl dX3_setKey_73 ?_
  refine z_bipush (v := (nI 97)) S dX3_setKey_76 (by decide) ?_
  obtain ⟨v_78, hv_78, h⟩ := ob_some h
  refine z_callV_r (As := [.int (nI 97)]) S (c_X0_numberOf l D X _ _ S.2.2.1 hv_78) (cwV 1 S.1.2.2.2.2 gX3_setKey_X0_numberOf rfl rfl rfl hd_X0_numberOf ⟨Nat.le_of_ble_eq_true rfl, Nat.le_of_ble_eq_true rfl⟩) (Nat.le_of_ble_eq_true rfl) (cC_0 X z_69) rfl rfl rfl (Nat.le_of_ble_eq_true rfl) rfl dX3_setKey_78 ?_
  exact z_iret_w S dX3_setKey_81 h
set_option maxHeartbeats 4000000 in
set_option maxRecDepth 100000 in
theorem c_X3_setKey (l : Launch) (D : va_G) (X : zE) (z0 : zV) (a0 : Int32) (a1 : Int32) (hinj : zw_inj 44 X.1) {r : Int32} {z1 : zV} (h : f_X3_setKey z0 a0 a1 = some (r, z1)) : zMw l yX3_setKey wsX3_setKey (zrm 3 104) D 44 X (zc shC X z0) [.ref (X.1 42), .int a0, .int a1] (some (.int r)) (zc shC X z1) := by
  rw [f_X3_setKey] at h
  refine z_start_w (cc := cX3_setKey) (maxL := 3) (ret := (some .int)) (by decide) rfl (Nat.le_of_ble_eq_true rfl) hinj ?_
  intro p e s m below meth c S
  refine z_iload_n S 1 dX3_setKey_0 rfl rfl ?_
  obtain ⟨v_1, hv_1, h⟩ := ob_some h
  refine z_callS_r (As := [.int a0]) S (c_X3_isFactor l D X _ _ S.2.2.1 hv_1) (va_cwS 1 S.1.2.2.2.2 gX3_setKey_X3_isFactor rfl rfl rfl hd_X3_isFactor ⟨Nat.le_of_ble_eq_true rfl, Nat.le_of_ble_eq_true rfl⟩) rfl rfl (Nat.le_of_ble_eq_true rfl) rfl dX3_setKey_1 ?_
  refine z_if_eq S (tgt := 17) dX3_setKey_4 (by decide) h (fun h => ?_) (fun h => ?_)
  · refine z_bipush (v := (-2)) S dX3_setKey_17 (by decide) ?_
    exact z_iret_w S dX3_setKey_19 h
  · refine z_iload_n S 2 dX3_setKey_7 rfl rfl ?_
    refine z_if_lt S (tgt := 17) dX3_setKey_8 (by decide) h (fun h => ?_) (fun h => ?_)
    · refine z_bipush (v := (-2)) S dX3_setKey_17 (by decide) ?_
      exact z_iret_w S dX3_setKey_19 h
    · refine z_iload_n S 2 dX3_setKey_11 rfl rfl ?_
      refine z_bipush (v := (nI 26)) S dX3_setKey_12 (by decide) ?_
      refine z_icmp_lt S (tgt := 20) dX3_setKey_14 (by decide) h (fun h => ?_) (fun h => ?_)
      · refine z_aload_n S 0 dX3_setKey_20 rfl rfl ?_
        refine z_get S (C := RX3) (T := TX3) (N := 7) (ci := 3) 0 m0_X3_setKey m1_X3_setKey (Nat.le_of_ble_eq_true rfl) (cC_42 X z0) rfl (Nat.le_of_ble_eq_true rfl) rfl rfl dX3_setKey_21 ?_
        refine z_get S (C := RX0) (T := TX0) (N := 11) (ci := 0) 6 m2_X3_setKey m3_X3_setKey (Nat.le_of_ble_eq_true rfl) (cC_0 X z0) rfl (Nat.le_of_ble_eq_true rfl) rfl rfl dX3_setKey_24 ?_
        refine z_iload_n S 1 dX3_setKey_27 rfl rfl ?_
        refine z_icmp_ne S (tgt := 45) dX3_setKey_28 (by decide) h (fun h => ?_) (fun h => ?_)
        · exact z_lv [0, 1, 2] rfl (tj_X3_setKey_45 S _ _ _ h)
        · refine z_aload_n S 0 dX3_setKey_31 rfl rfl ?_
          refine z_get S (C := RX3) (T := TX3) (N := 7) (ci := 3) 0 m0_X3_setKey m1_X3_setKey (Nat.le_of_ble_eq_true rfl) (cC_42 X z0) rfl (Nat.le_of_ble_eq_true rfl) rfl rfl dX3_setKey_32 ?_
          refine z_get S (C := RX0) (T := TX0) (N := 11) (ci := 0) 7 m4_X3_setKey m3_X3_setKey (Nat.le_of_ble_eq_true rfl) (cC_0 X z0) rfl (Nat.le_of_ble_eq_true rfl) rfl rfl dX3_setKey_35 ?_
          refine z_iload_n S 2 dX3_setKey_38 rfl rfl ?_
          refine z_icmp_ne S (tgt := 45) dX3_setKey_39 (by decide) h (fun h => ?_) (fun h => ?_)
          · exact z_lv [0, 1, 2] rfl (tj_X3_setKey_45 S _ _ _ h)
          · refine z_bipush (v := (-5)) S dX3_setKey_42 (by decide) ?_
            exact z_iret_w S dX3_setKey_44 h
      · refine z_bipush (v := (-2)) S dX3_setKey_17 (by decide) ?_
        exact z_iret_w S dX3_setKey_19 h
/-! SoldLetters$Text.faultAsWords: a walk -/
theorem hd_X1_faultAsWords : yX1_faultAsWords.cls = RX1 ∧ yX1_faultAsWords.cls ≠ "java/lang/invoke/MethodHandle" ∧ yX1_faultAsWords.cls ≠ "java/lang/invoke/VarHandle" ∧ (parseMethodDescriptor yX1_faultAsWords.desc).map (fun d => d.parameters.length) = some 0 := by decide +kernel
theorem m0_X1_faultAsWords : Cond.fieldLink RX1 15 RX1 (TX1 1).2.1 (TX1 1).2.2.1 ∈ wsX1_faultAsWords := by decide +kernel
theorem m1_X1_faultAsWords : ∀ w ∈ u_ws RX1 TX1 2, w ∈ wsX1_faultAsWords := by decide +kernel
theorem m2_X1_faultAsWords : Cond.fieldLink RX1 9 RX1 (TX1 0).2.1 (TX1 0).2.2.1 ∈ wsX1_faultAsWords := by decide +kernel
theorem m3_X1_faultAsWords : Cond.static yX3_isLetter ∈ wsX1_faultAsWords := by decide +kernel
theorem m4_X1_faultAsWords : Cond.initialized RX3 ∈ wsX1_faultAsWords := by decide +kernel
set_option maxHeartbeats 4000000 in
set_option maxRecDepth 100000 in
theorem tj_X1_faultAsWords_36 {l : Launch} {D : va_G} {X : zE} {p : Program} {e : Env} {s : State} {m : MethodId} {args : Array Value} {below : List Frame} {meth : Method} {c : Code} (S : zS p m meth c cX1_faultAsWords 3 (some .int) s args wsX1_faultAsWords RX1 D 44 X) {z0 : zV} {r : Int32} {k_4 : Int32 → Int32 → Option (Int32)} (hk_4 : ∀ (x1 : Int32) (x2 : Int32), k_4 x1 x2 = some r → Zj false D 44 X p l e (zrm 1 20) s m args below meth c (MQ below (zQr (some (.int r))) args s 0 0 (fun _ => False)) 3 4 [(0, .ref (X.1 40)), (1, .int x1), (2, .int x2)] [] (zc shC X z0)) : ∀ (x1 : Int32) (x2 : Int32), j_X1_faultAsWords_36 z0 k_4 x1 x2 = some r → Zj false D 44 X p l e (zrm 1 20) s m args below meth c (MQ below (zQr (some (.int r))) args s 0 0 (fun _ => False)) 3 36 [(0, .ref (X.1 40)), (1, .int x1), (2, .int x2)] [] (zc shC X z0) := by
  intro x1 x2 h
  rw [j_X1_faultAsWords_36] at h
  refine z_aload_n S 0 dX1_faultAsWords_36 rfl rfl ?_
  refine z_get S (C := RX1) (T := TX1) (N := 2) (ci := 1) 0 m2_X1_faultAsWords m1_X1_faultAsWords (Nat.le_of_ble_eq_true rfl) (cC_40 X z0) rfl (Nat.le_of_ble_eq_true rfl) rfl rfl dX1_faultAsWords_37 ?_
  refine z_iload_n S 2 dX1_faultAsWords_40 rfl rfl ?_
  refine z_iald S (Nat.le_of_ble_eq_true rfl) (cC_41 X z0) dX1_faultAsWords_41 h (fun v_41 h => ?_)
  refine z_bipush (v := (nI 44)) S dX1_faultAsWords_42 (by decide) ?_
  refine z_icmp_ne S (tgt := 57) dX1_faultAsWords_44 (by decide) h (fun h => ?_) (fun h => ?_)
  · refine z_iload_n S 2 dX1_faultAsWords_57 rfl rfl ?_
    exact z_iret_r S dX1_faultAsWords_58 h
  · refine z_iload_n S 1 dX1_faultAsWords_47 rfl rfl ?_
    refine z_iconst (v := (nI 2)) S dX1_faultAsWords_48 (by decide) ?_
    refine z_icmp_lt S (tgt := 57) dX1_faultAsWords_49 (by decide) h (fun h => ?_) (fun h => ?_)
    · refine z_iload_n S 2 dX1_faultAsWords_57 rfl rfl ?_
      exact z_iret_r S dX1_faultAsWords_58 h
    · refine z_iconst (v := (nI 0)) S dX1_faultAsWords_52 (by decide) ?_
      refine z_istore_n S [(1, .int (nI 0)), (0, .ref (X.1 40)), (2, .int x2)] dX1_faultAsWords_53 rfl (Nat.le_of_ble_eq_true rfl) rfl ?_
      refine z_goto S (tgt := 59) dX1_faultAsWords_54 (by decide) ?_
      refine z_iinc S 2 [(2, .int (x2 + nI 1)), (1, .int (nI 0)), (0, .ref (X.1 40))] dX1_faultAsWords_59 rfl rfl (Nat.le_of_ble_eq_true rfl) rfl ?_
      refine z_goto S (tgt := 4) dX1_faultAsWords_62 (by decide) ?_
      exact z_lv [2, 1, 0] rfl (hk_4 _ _ h)
set_option maxHeartbeats 4000000 in
set_option maxRecDepth 100000 in
theorem tl_X1_faultAsWords_4 {l : Launch} {D : va_G} {X : zE} {p : Program} {e : Env} {s : State} {m : MethodId} {args : Array Value} {below : List Frame} {meth : Method} {c : Code} (S : zS p m meth c cX1_faultAsWords 3 (some .int) s args wsX1_faultAsWords RX1 D 44 X) {z0 : zV} {r : Int32} : ∀ (n_ : Nat), ∀ (x1 : Int32) (x2 : Int32), l_X1_faultAsWords_4 z0 n_ x1 x2 = some r → Zj false D 44 X p l e (zrm 1 20) s m args below meth c (MQ below (zQr (some (.int r))) args s 0 0 (fun _ => False)) 3 4 [(0, .ref (X.1 40)), (1, .int x1), (2, .int x2)] [] (zc shC X z0) := by
  intro n_
  induction n_ with
  | zero =>
    intro x1 x2 h
    cases h
  | succ n_ ih =>
    intro x1 x2 h
    rw [l_X1_faultAsWords_4] at h
    refine z_iload_n S 2 dX1_faultAsWords_4 rfl rfl ?_
    refine z_aload_n S 0 dX1_faultAsWords_5 rfl rfl ?_
    refine z_get S (C := RX1) (T := TX1) (N := 2) (ci := 1) 1 m0_X1_faultAsWords m1_X1_faultAsWords (Nat.le_of_ble_eq_true rfl) (cC_40 X z0) rfl (Nat.le_of_ble_eq_true rfl) rfl rfl dX1_faultAsWords_6 ?_
    refine z_icmp_ge S (tgt := 65) dX1_faultAsWords_9 (by decide) h (fun h => ?_) (fun h => ?_)
    · refine z_iload_n S 1 dX1_faultAsWords_65 rfl rfl ?_
      refine z_iconst (v := (nI 2)) S dX1_faultAsWords_66 (by decide) ?_
      refine z_icmp_ge S (tgt := 77) dX1_faultAsWords_67 (by decide) h (fun h => ?_) (fun h => ?_)
      · refine z_iconst (v := (-1)) S dX1_faultAsWords_77 (by decide) ?_
        exact z_iret_r S dX1_faultAsWords_78 h
      · refine z_aload_n S 0 dX1_faultAsWords_70 rfl rfl ?_
        refine z_get S (C := RX1) (T := TX1) (N := 2) (ci := 1) 1 m0_X1_faultAsWords m1_X1_faultAsWords (Nat.le_of_ble_eq_true rfl) (cC_40 X z0) rfl (Nat.le_of_ble_eq_true rfl) rfl rfl dX1_faultAsWords_71 ?_
        refine z_goto S (tgt := 78) dX1_faultAsWords_74 (by decide) ?_
        exact z_iret_r S dX1_faultAsWords_78 h
    · refine z_aload_n S 0 dX1_faultAsWords_12 rfl rfl ?_
      refine z_get S (C := RX1) (T := TX1) (N := 2) (ci := 1) 0 m2_X1_faultAsWords m1_X1_faultAsWords (Nat.le_of_ble_eq_true rfl) (cC_40 X z0) rfl (Nat.le_of_ble_eq_true rfl) rfl rfl dX1_faultAsWords_13 ?_
      refine z_iload_n S 2 dX1_faultAsWords_16 rfl rfl ?_
      refine z_iald S (Nat.le_of_ble_eq_true rfl) (cC_41 X z0) dX1_faultAsWords_17 h (fun v_17 h => ?_)
      obtain ⟨v_18, hv_18, h⟩ := ob_some h
      refine z_callSN_r (As := [.int v_17]) S (c_X3_isLetter l D X _ _ S.2.2.1 hv_18) ⟨va_cnB 1 S.1.2.2.2.2 gX1_faultAsWords_X3_isLetter_n19 rfl rfl rfl S.2.1.2.1 (S.1.2.2.2.2 _ m4_X1_faultAsWords) hd_X3_isLetter ⟨Nat.le_of_ble_eq_true rfl, Nat.le_of_ble_eq_true rfl⟩, S.1.2.2.2.2 _ m3_X1_faultAsWords, trivial⟩ rfl rfl (Nat.le_of_ble_eq_true rfl) rfl dX1_faultAsWords_18 ?_
      refine z_if_eq S (tgt := 36) dX1_faultAsWords_21 (by decide) h (fun h => ?_) (fun h => ?_)
      · exact z_lv [0, 1, 2] rfl (tj_X1_faultAsWords_36 S ih _ _ h)
      · refine z_iload_n S 1 dX1_faultAsWords_24 rfl rfl ?_
        refine z_bipush (v := (nI 7)) S dX1_faultAsWords_25 (by decide) ?_
        refine z_icmp_ge S (tgt := 36) dX1_faultAsWords_27 (by decide) h (fun h => ?_) (fun h => ?_)
        · exact z_lv [0, 1, 2] rfl (tj_X1_faultAsWords_36 S ih _ _ h)
        · refine z_iinc S 1 [(1, .int (x1 + nI 1)), (0, .ref (X.1 40)), (2, .int x2)] dX1_faultAsWords_30 rfl rfl (Nat.le_of_ble_eq_true rfl) rfl ?_
          refine z_goto S (tgt := 59) dX1_faultAsWords_33 (by decide) ?_
          refine z_iinc S 2 [(2, .int (x2 + nI 1)), (1, .int (x1 + nI 1)), (0, .ref (X.1 40))] dX1_faultAsWords_59 rfl rfl (Nat.le_of_ble_eq_true rfl) rfl ?_
          refine z_goto S (tgt := 4) dX1_faultAsWords_62 (by decide) ?_
          exact z_lv [2, 1, 0] rfl (ih _ _ h)
set_option maxHeartbeats 4000000 in
set_option maxRecDepth 100000 in
theorem c_X1_faultAsWords (l : Launch) (D : va_G) (X : zE) (z0 : zV) (hinj : zw_inj 44 X.1) {r : Int32} (h : f_X1_faultAsWords z0 = some r) : zMr l yX1_faultAsWords wsX1_faultAsWords (zrm 1 20) D 44 X (zc shC X z0) [.ref (X.1 40)] (some (.int r)) := by
  rw [f_X1_faultAsWords] at h
  refine z_start_r (cc := cX1_faultAsWords) (maxL := 3) (ret := (some .int)) (by decide) rfl (Nat.le_of_ble_eq_true rfl) hinj ?_
  intro p e s m below meth c S
  refine z_iconst (v := (nI 0)) S dX1_faultAsWords_0 (by decide) ?_
  refine z_istore_n S [(1, .int (nI 0)), (0, .ref (X.1 40))] dX1_faultAsWords_1 rfl (Nat.le_of_ble_eq_true rfl) rfl ?_
  refine z_iconst (v := (nI 0)) S dX1_faultAsWords_2 (by decide) ?_
  refine z_istore_n S [(2, .int (nI 0)), (1, .int (nI 0)), (0, .ref (X.1 40))] dX1_faultAsWords_3 rfl (Nat.le_of_ble_eq_true rfl) rfl ?_
  exact z_lv [2, 1, 0] rfl (tl_X1_faultAsWords_4 S _ _ _ h)
