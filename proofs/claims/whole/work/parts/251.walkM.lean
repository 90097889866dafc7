/-! SoldLettersModel.coded: a walk -/
theorem hd_X4_coded : yX4_coded.cls ≠ "java/lang/invoke/MethodHandle" ∧ yX4_coded.cls ≠ "java/lang/invoke/VarHandle" ∧ (parseMethodDescriptor yX4_coded.desc).map (fun d => d.parameters.length) = some 1 := by decide +kernel
set_option maxHeartbeats 4000000 in
set_option maxRecDepth 100000 in
theorem c_X4_coded (l : Launch) (D : va_G) (X : zE) (z0 : zV) (a0 : Int32) (hinj : zw_inj 9 X.1) {r : Int32} (h : f_X4_coded z0 a0 = some r) : zMr l yX4_coded wsX4_coded (zrm 0 0) D 9 X (zc shM X z0) [.int a0] (some (.int r)) := by
  rw [f_X4_coded] at h
  refine z_start_r (cc := cX4_coded) (maxL := 1) (ret := (some .int)) (by decide) rfl (Nat.le_of_ble_eq_true rfl) hinj ?_
  intro p e s m below meth c S
  refine z_iload_n S 0 dX4_coded_0 rfl rfl ?_
  refine z_iconst (v := (-1)) S dX4_coded_1 (by decide) ?_
  refine z_icmp_ne S (tgt := 10) dX4_coded_2 (by decide) h (fun h => ?_) (fun h => ?_)
  · refine z_bipush (v := (nI 97)) S dX4_coded_10 (by decide) ?_
    refine z_iload_n S 0 dX4_coded_12 rfl rfl ?_
    refine z_iadd S dX4_coded_13 ?_
    exact z_iret_r S dX4_coded_14 h
  · refine z_bipush (v := (-5)) S dX4_coded_5 (by decide) ?_
    refine z_goto S (tgt := 14) dX4_coded_7 (by decide) ?_
    exact z_iret_r S dX4_coded_14 h
/-! SoldLettersModel.findsInLine: a walk -/
theorem hd_X4_findsInLine : yX4_findsInLine.cls = RX4 ∧ yX4_findsInLine.cls ≠ "java/lang/invoke/MethodHandle" ∧ yX4_findsInLine.cls ≠ "java/lang/invoke/VarHandle" ∧ (parseMethodDescriptor yX4_findsInLine.desc).map (fun d => d.parameters.length) = some 2 := by decide +kernel
theorem m0_X4_findsInLine : Cond.fieldLink RX4 22 RX4 (TX4 6).2.1 (TX4 6).2.2.1 ∈ wsX4_findsInLine := by decide +kernel
theorem m1_X4_findsInLine : ∀ w ∈ u_ws RX4 TX4 12, w ∈ wsX4_findsInLine := by decide +kernel
theorem m2_X4_findsInLine : Cond.fieldLink RX4 57 RX4 (TX4 9).2.1 (TX4 9).2.2.1 ∈ wsX4_findsInLine := by decide +kernel
theorem m3_X4_findsInLine : Cond.fieldLink RX4 25 RX4 (TX4 7).2.1 (TX4 7).2.2.1 ∈ wsX4_findsInLine := by decide +kernel
theorem m4_X4_findsInLine : Cond.fieldLink RX4 28 RX4 (TX4 8).2.1 (TX4 8).2.2.1 ∈ wsX4_findsInLine := by decide +kernel
theorem m5_X4_findsInLine : Cond.fieldLink RX4 7 RX4 (TX4 0).2.1 (TX4 0).2.2.1 ∈ wsX4_findsInLine := by decide +kernel
set_option maxHeartbeats 4000000 in
set_option maxRecDepth 100000 in
theorem tj_X4_findsInLine_42 {l : Launch} {D : va_G} {X : zE} {p : Program} {e : Env} {s : State} {m : MethodId} {args : Array Value} {below : List Frame} {meth : Method} {c : Code} (S : zS p m meth c cX4_findsInLine 5 none s args wsX4_findsInLine RX4 D 9 X) {z1 : zV} {k_5 : zV → Int32 → Int32 → Int32 → Int32 → Option (zV)} (hk_5 : ∀ (z0 : zV) (x1 : Int32) (x2 : Int32) (x3 : Int32) (x4 : Int32), k_5 z0 x1 x2 x3 x4 = some z1 → Zj true D 9 X p l e (zrm 0 0) s m args below meth c (MQ below (zQw D 9 X (zc shM X z1) none) args s 0 0 (zw_A 9 X.1)) 5 5 [(0, .ref (X.1 0)), (1, .int x1), (2, .int x2), (3, .int x3), (4, .int x4)] [] (zc shM X z0)) : ∀ (z0 : zV) (x1 : Int32) (x2 : Int32) (x3 : Int32) (x4 : Int32), j_X4_findsInLine_42 k_5 z0 x1 x2 x3 x4 = some z1 → Zj true D 9 X p l e (zrm 0 0) s m args below meth c (MQ below (zQw D 9 X (zc shM X z1) none) args s 0 0 (zw_A 9 X.1)) 5 42 [(0, .ref (X.1 0)), (1, .int x1), (2, .int x2), (3, .int x3), (4, .int x4)] [] (zc shM X z0) := by
  intro z0 x1 x2 x3 x4 h
  rw [j_X4_findsInLine_42] at h
  refine z_iload_n S 3 dX4_findsInLine_42 rfl rfl ?_
  refine z_iconst (v := (nI 1)) S dX4_findsInLine_43 (by decide) ?_
  refine z_icmp_le S (tgt := 94) dX4_findsInLine_44 (by decide) h (fun h => ?_) (fun h => ?_)
  · refine z_iconst (v := (nI 0)) S dX4_findsInLine_94 (by decide) ?_
    refine z_istore_n S [(3, .int (nI 0)), (0, .ref (X.1 0)), (1, .int x1), (2, .int x2), (4, .int x4)] dX4_findsInLine_95 rfl (Nat.le_of_ble_eq_true rfl) rfl ?_
    refine z_iinc S 4 [(4, .int (x4 + nI 1)), (3, .int (nI 0)), (0, .ref (X.1 0)), (1, .int x1), (2, .int x2)] dX4_findsInLine_96 rfl rfl (Nat.le_of_ble_eq_true rfl) rfl ?_
    refine z_goto S (tgt := 5) dX4_findsInLine_99 (by decide) ?_
    exact z_lv [2, 3, 4, 1, 0] rfl (hk_5 _ _ _ _ _ h)
  · refine z_aload_n S 0 dX4_findsInLine_47 rfl rfl ?_
    refine z_get S (C := RX4) (T := TX4) (N := 12) (ci := 4) 6 m0_X4_findsInLine m1_X4_findsInLine (Nat.le_of_ble_eq_true rfl) (cM_0 X z0) rfl (Nat.le_of_ble_eq_true rfl) rfl rfl dX4_findsInLine_48 ?_
    refine z_aload_n S 0 dX4_findsInLine_51 rfl rfl ?_
    refine z_get S (C := RX4) (T := TX4) (N := 12) (ci := 4) 9 m2_X4_findsInLine m1_X4_findsInLine (Nat.le_of_ble_eq_true rfl) (cM_0 X z0) rfl (Nat.le_of_ble_eq_true rfl) rfl rfl dX4_findsInLine_52 ?_
    refine z_iload_n S 1 dX4_findsInLine_55 rfl rfl ?_
    refine z_iload_n S 2 dX4_findsInLine_56 rfl rfl ?_
    refine z_iload S 4 dX4_findsInLine_57 rfl ?_
    refine z_iload_n S 3 dX4_findsInLine_59 rfl rfl ?_
    refine z_isub S dX4_findsInLine_60 ?_
    refine z_imul S dX4_findsInLine_61 ?_
    refine z_iadd S dX4_findsInLine_62 ?_
    refine z_iast S (Nat.le_of_ble_eq_true rfl) (fun _ => rfl) dX4_findsInLine_63 h (fun z_63 h => ?_)
    refine z_aload_n S 0 dX4_findsInLine_64 rfl rfl ?_
    refine z_get S (C := RX4) (T := TX4) (N := 12) (ci := 4) 7 m3_X4_findsInLine m1_X4_findsInLine (Nat.le_of_ble_eq_true rfl) (cM_0 X z_63) rfl (Nat.le_of_ble_eq_true rfl) rfl rfl dX4_findsInLine_65 ?_
    refine z_aload_n S 0 dX4_findsInLine_68 rfl rfl ?_
    refine z_get S (C := RX4) (T := TX4) (N := 12) (ci := 4) 9 m2_X4_findsInLine m1_X4_findsInLine (Nat.le_of_ble_eq_true rfl) (cM_0 X z_63) rfl (Nat.le_of_ble_eq_true rfl) rfl rfl dX4_findsInLine_69 ?_
    refine z_iload_n S 3 dX4_findsInLine_72 rfl rfl ?_
    refine z_iast S (Nat.le_of_ble_eq_true rfl) (fun _ => rfl) dX4_findsInLine_73 h (fun z_73 h => ?_)
    refine z_aload_n S 0 dX4_findsInLine_74 rfl rfl ?_
    refine z_get S (C := RX4) (T := TX4) (N := 12) (ci := 4) 8 m4_X4_findsInLine m1_X4_findsInLine (Nat.le_of_ble_eq_true rfl) (cM_0 X z_73) rfl (Nat.le_of_ble_eq_true rfl) rfl rfl dX4_findsInLine_75 ?_
    refine z_aload_n S 0 dX4_findsInLine_78 rfl rfl ?_
    refine z_get S (C := RX4) (T := TX4) (N := 12) (ci := 4) 9 m2_X4_findsInLine m1_X4_findsInLine (Nat.le_of_ble_eq_true rfl) (cM_0 X z_73) rfl (Nat.le_of_ble_eq_true rfl) rfl rfl dX4_findsInLine_79 ?_
    refine z_iload_n S 2 dX4_findsInLine_82 rfl rfl ?_
    refine z_iast S (Nat.le_of_ble_eq_true rfl) (fun _ => rfl) dX4_findsInLine_83 h (fun z_83 h => ?_)
    refine z_aload_n S 0 dX4_findsInLine_84 rfl rfl ?_
    refine z_dup S dX4_findsInLine_85 rfl ?_
    refine z_get S (C := RX4) (T := TX4) (N := 12) (ci := 4) 9 m2_X4_findsInLine m1_X4_findsInLine (Nat.le_of_ble_eq_true rfl) (cM_0 X z_83) rfl (Nat.le_of_ble_eq_true rfl) rfl rfl dX4_findsInLine_86 ?_
    refine z_iconst (v := (nI 1)) S dX4_findsInLine_89 (by decide) ?_
    refine z_iadd S dX4_findsInLine_90 ?_
    refine z_put S (C := RX4) (T := TX4) (N := 12) (ci := 4) 9 tyX4_ok nmX4 m2_X4_findsInLine m1_X4_findsInLine (Nat.le_of_ble_eq_true rfl) (cM_0 X z_83) rfl (Nat.le_of_ble_eq_true rfl) rfl rfl rfl rfl (Nat.le_of_ble_eq_true rfl) rfl dX4_findsInLine_91 h (fun z_91 h => ?_)
    refine z_iconst (v := (nI 0)) S dX4_findsInLine_94 (by decide) ?_
    refine z_istore_n S [(3, .int (nI 0)), (0, .ref (X.1 0)), (1, .int x1), (2, .int x2), (4, .int x4)] dX4_findsInLine_95 rfl (Nat.le_of_ble_eq_true rfl) rfl ?_
    refine z_iinc S 4 [(4, .int (x4 + nI 1)), (3, .int (nI 0)), (0, .ref (X.1 0)), (1, .int x1), (2, .int x2)] dX4_findsInLine_96 rfl rfl (Nat.le_of_ble_eq_true rfl) rfl ?_
    refine z_goto S (tgt := 5) dX4_findsInLine_99 (by decide) ?_
    exact z_lv [2, 3, 4, 1, 0] rfl (hk_5 _ _ _ _ _ h)
set_option maxHeartbeats 4000000 in
set_option maxRecDepth 100000 in
theorem tl_X4_findsInLine_5 {l : Launch} {D : va_G} {X : zE} {p : Program} {e : Env} {s : State} {m : MethodId} {args : Array Value} {below : List Frame} {meth : Method} {c : Code} (S : zS p m meth c cX4_findsInLine 5 none s args wsX4_findsInLine RX4 D 9 X) {z1 : zV} : ∀ (n_ : Nat), ∀ (z0 : zV) (x1 : Int32) (x2 : Int32) (x3 : Int32) (x4 : Int32), l_X4_findsInLine_5 n_ z0 x1 x2 x3 x4 = some z1 → Zj true D 9 X p l e (zrm 0 0) s m args below meth c (MQ below (zQw D 9 X (zc shM X z1) none) args s 0 0 (zw_A 9 X.1)) 5 5 [(0, .ref (X.1 0)), (1, .int x1), (2, .int x2), (3, .int x3), (4, .int x4)] [] (zc shM X z0) := by
  intro n_
  induction n_ with
  | zero =>
    intro z0 x1 x2 x3 x4 h
    cases h
  | succ n_ ih =>
    intro z0 x1 x2 x3 x4 h
    rw [l_X4_findsInLine_5] at h
    refine z_iload S 4 dX4_findsInLine_5 rfl ?_
    refine z_bipush (v := (nI 7)) S dX4_findsInLine_7 (by decide) ?_
    refine z_icmp_gt S (tgt := 102) dX4_findsInLine_9 (by decide) h (fun h => ?_) (fun h => ?_)
    · exact z_vret_w S dX4_findsInLine_102 h
    · refine z_iload S 4 dX4_findsInLine_12 rfl ?_
      refine z_bipush (v := (nI 7)) S dX4_findsInLine_14 (by decide) ?_
      refine z_icmp_ge S (tgt := 42) dX4_findsInLine_16 (by decide) h (fun h => ?_) (fun h => ?_)
      · exact z_lv [0, 1, 2, 3, 4] rfl (tj_X4_findsInLine_42 S ih _ _ _ _ _ h)
      · refine z_aload_n S 0 dX4_findsInLine_19 rfl rfl ?_
        refine z_get S (C := RX4) (T := TX4) (N := 12) (ci := 4) 0 m5_X4_findsInLine m1_X4_findsInLine (Nat.le_of_ble_eq_true rfl) (cM_0 X z0) rfl (Nat.le_of_ble_eq_true rfl) rfl rfl dX4_findsInLine_20 ?_
        refine z_iconst (v := (nI 0)) S dX4_findsInLine_23 (by decide) ?_
        refine z_iload_n S 1 dX4_findsInLine_24 rfl rfl ?_
        refine z_iadd S dX4_findsInLine_25 ?_
        refine z_iload_n S 2 dX4_findsInLine_26 rfl rfl ?_
        refine z_iload S 4 dX4_findsInLine_27 rfl ?_
        refine z_imul S dX4_findsInLine_29 ?_
        refine z_iadd S dX4_findsInLine_30 ?_
        refine z_iald S (Nat.le_of_ble_eq_true rfl) (cM_1 X z0) dX4_findsInLine_31 h (fun v_31 h => ?_)
        refine z_iconst (v := (-1)) S dX4_findsInLine_32 (by decide) ?_
        refine z_icmp_eq S (tgt := 42) dX4_findsInLine_33 (by decide) h (fun h => ?_) (fun h => ?_)
        · exact z_lv [0, 1, 2, 3, 4] rfl (tj_X4_findsInLine_42 S ih _ _ _ _ _ h)
        · refine z_iinc S 3 [(3, .int (x3 + nI 1)), (0, .ref (X.1 0)), (1, .int x1), (2, .int x2), (4, .int x4)] dX4_findsInLine_36 rfl rfl (Nat.le_of_ble_eq_true rfl) rfl ?_
          refine z_goto S (tgt := 96) dX4_findsInLine_39 (by decide) ?_
          refine z_iinc S 4 [(4, .int (x4 + nI 1)), (3, .int (x3 + nI 1)), (0, .ref (X.1 0)), (1, .int x1), (2, .int x2)] dX4_findsInLine_96 rfl rfl (Nat.le_of_ble_eq_true rfl) rfl ?_
          refine z_goto S (tgt := 5) dX4_findsInLine_99 (by decide) ?_
          exact z_lv [2, 3, 4, 1, 0] rfl (ih _ _ _ _ _ h)
set_option maxHeartbeats 4000000 in
set_option maxRecDepth 100000 in
theorem c_X4_findsInLine (l : Launch) (D : va_G) (X : zE) (z0 : zV) (a0 : Int32) (a1 : Int32) (hinj : zw_inj 9 X.1) {z1 : zV} (h : f_X4_findsInLine z0 a0 a1 = some z1) : zMw l yX4_findsInLine wsX4_findsInLine (zrm 0 0) D 9 X (zc shM X z0) [.ref (X.1 0), .int a0, .int a1] none (zc shM X z1) := by
  rw [f_X4_findsInLine] at h
  refine z_start_w (cc := cX4_findsInLine) (maxL := 5) (ret := none) (by decide) rfl (Nat.le_of_ble_eq_true rfl) hinj ?_
  intro p e s m below meth c S
  refine z_iconst (v := (nI 0)) S dX4_findsInLine_0 (by decide) ?_
  refine z_istore_n S [(3, .int (nI 0)), (0, .ref (X.1 0)), (1, .int a0), (2, .int a1)] dX4_findsInLine_1 rfl (Nat.le_of_ble_eq_true rfl) rfl ?_
  refine z_iconst (v := (nI 0)) S dX4_findsInLine_2 (by decide) ?_
  refine z_istore S [(4, .int (nI 0)), (3, .int (nI 0)), (0, .ref (X.1 0)), (1, .int a0), (2, .int a1)] dX4_findsInLine_3 (Nat.le_of_ble_eq_true rfl) rfl ?_
  exact z_lv [2, 3, 4, 1, 0] rfl (tl_X4_findsInLine_5 S _ _ _ _ _ _ h)
/-! SoldLettersModel.findsWords: a walk -/
theorem hd_X4_findsWords : yX4_findsWords.cls = RX4 ∧ yX4_findsWords.cls ≠ "java/lang/invoke/MethodHandle" ∧ yX4_findsWords.cls ≠ "java/lang/invoke/VarHandle" ∧ (parseMethodDescriptor yX4_findsWords.desc).map (fun d => d.parameters.length) = some 0 := by decide +kernel
theorem m0_X4_findsWords : Cond.fieldLink RX4 57 RX4 (TX4 9).2.1 (TX4 9).2.2.1 ∈ wsX4_findsWords := by decide +kernel
theorem m1_X4_findsWords : ∀ w ∈ u_ws RX4 TX4 12, w ∈ wsX4_findsWords := by decide +kernel
set_option maxHeartbeats 4000000 in
set_option maxRecDepth 100000 in
theorem tl_X4_findsWords_30 {l : Launch} {D : va_G} {X : zE} {p : Program} {e : Env} {s : State} {m : MethodId} {args : Array Value} {below : List Frame} {meth : Method} {c : Code} (S : zS p m meth c cX4_findsWords 2 none s args wsX4_findsWords RX4 D 9 X) {z1 : zV} : ∀ (n_ : Nat), ∀ (z0 : zV) (x1 : Int32), l_X4_findsWords_30 n_ z0 x1 = some z1 → Zj true D 9 X p l e (zrm 1 24) s m args below meth c (MQ below (zQw D 9 X (zc shM X z1) none) args s 0 0 (zw_A 9 X.1)) 2 30 [(0, .ref (X.1 0)), (1, .int x1)] [] (zc shM X z0) := by
  intro n_
  induction n_ with
  | zero =>
    intro z0 x1 h
    cases h
  | succ n_ ih =>
    intro z0 x1 h
    rw [l_X4_findsWords_30] at h
    refine z_iload_n S 1 dX4_findsWords_30 rfl rfl ?_
    refine z_bipush (v := (nI 7)) S dX4_findsWords_31 (by decide) ?_
    refine z_icmp_ge S (tgt := 49) dX4_findsWords_33 (by decide) h (fun h => ?_) (fun h => ?_)
    · exact z_vret_w S dX4_findsWords_49 h
    · refine z_aload_n S 0 dX4_findsWords_36 rfl rfl ?_
      refine z_iload_n S 1 dX4_findsWords_37 rfl rfl ?_
      refine z_bipush (v := (nI 7)) S dX4_findsWords_38 (by decide) ?_
      obtain ⟨z_40, hv_40, h⟩ := ob_some h
      refine z_callV_w (As := [.int x1, .int (nI 7)]) S (c_X4_findsInLine l D X _ _ _ S.2.2.1 hv_40) (cwV 2 S.1.2.2.2.2 gX4_findsWords_X4_findsInLine rfl rfl rfl hd_X4_findsInLine ⟨Nat.le_of_ble_eq_true rfl, Nat.le_of_ble_eq_true rfl⟩) (Nat.le_of_ble_eq_true rfl) (cM_0 X z0) rfl rfl rfl (Nat.le_of_ble_eq_true rfl) rfl dX4_findsWords_40 ?_
      refine z_iinc S 1 [(1, .int (x1 + nI 1)), (0, .ref (X.1 0))] dX4_findsWords_43 rfl rfl (Nat.le_of_ble_eq_true rfl) rfl ?_
      refine z_goto S (tgt := 30) dX4_findsWords_46 (by decide) ?_
      exact z_lv [1, 0] rfl (ih _ _ h)
set_option maxHeartbeats 4000000 in
set_option maxRecDepth 100000 in
theorem tl_X4_findsWords_7 {l : Launch} {D : va_G} {X : zE} {p : Program} {e : Env} {s : State} {m : MethodId} {args : Array Value} {below : List Frame} {meth : Method} {c : Code} (S : zS p m meth c cX4_findsWords 2 none s args wsX4_findsWords RX4 D 9 X) {z1 : zV} : ∀ (n_ : Nat), ∀ (z0 : zV) (x1 : Int32), l_X4_findsWords_7 n_ z0 x1 = some z1 → Zj true D 9 X p l e (zrm 1 24) s m args below meth c (MQ below (zQw D 9 X (zc shM X z1) none) args s 0 0 (zw_A 9 X.1)) 2 7 [(0, .ref (X.1 0)), (1, .int x1)] [] (zc shM X z0) := by
  intro n_
  induction n_ with
  | zero =>
    intro z0 x1 h
    cases h
  | succ n_ ih =>
    intro z0 x1 h
    rw [l_X4_findsWords_7] at h
    refine z_iload_n S 1 dX4_findsWords_7 rfl rfl ?_
    refine z_bipush (v := (nI 7)) S dX4_findsWords_8 (by decide) ?_
    refine z_icmp_ge S (tgt := 28) dX4_findsWords_10 (by decide) h (fun h => ?_) (fun h => ?_)
    · refine z_iconst (v := (nI 0)) S dX4_findsWords_28 (by decide) ?_
      refine z_istore_n S [(1, .int (nI 0)), (0, .ref (X.1 0))] dX4_findsWords_29 rfl (Nat.le_of_ble_eq_true rfl) rfl ?_
      exact z_lv [1, 0] rfl (tl_X4_findsWords_30 S _ _ _ h)
    · refine z_aload_n S 0 dX4_findsWords_13 rfl rfl ?_
      refine z_bipush (v := (nI 7)) S dX4_findsWords_14 (by decide) ?_
      refine z_iload_n S 1 dX4_findsWords_16 rfl rfl ?_
      refine z_imul S dX4_findsWords_17 ?_
      refine z_iconst (v := (nI 1)) S dX4_findsWords_18 (by decide) ?_
      obtain ⟨z_19, hv_19, h⟩ := ob_some h
      refine z_callV_w (As := [.int ((nI 7) * x1), .int (nI 1)]) S (c_X4_findsInLine l D X _ _ _ S.2.2.1 hv_19) (cwV 2 S.1.2.2.2.2 gX4_findsWords_X4_findsInLine rfl rfl rfl hd_X4_findsInLine ⟨Nat.le_of_ble_eq_true rfl, Nat.le_of_ble_eq_true rfl⟩) (Nat.le_of_ble_eq_true rfl) (cM_0 X z0) rfl rfl rfl (Nat.le_of_ble_eq_true rfl) rfl dX4_findsWords_19 ?_
      refine z_iinc S 1 [(1, .int (x1 + nI 1)), (0, .ref (X.1 0))] dX4_findsWords_22 rfl rfl (Nat.le_of_ble_eq_true rfl) rfl ?_
      refine z_goto S (tgt := 7) dX4_findsWords_25 (by decide) ?_
      exact z_lv [1, 0] rfl (ih _ _ h)
set_option maxHeartbeats 4000000 in
set_option maxRecDepth 100000 in
theorem c_X4_findsWords (l : Launch) (D : va_G) (X : zE) (z0 : zV) (hinj : zw_inj 9 X.1) {z1 : zV} (h : f_X4_findsWords z0 = some z1) : zMw l yX4_findsWords wsX4_findsWords (zrm 1 24) D 9 X (zc shM X z0) [.ref (X.1 0)] none (zc shM X z1) := by
  rw [f_X4_findsWords] at h
  refine z_start_w (cc := cX4_findsWords) (maxL := 2) (ret := none) (by decide) rfl (Nat.le_of_ble_eq_true rfl) hinj ?_
  intro p e s m below meth c S
  refine z_aload_n S 0 dX4_findsWords_0 rfl rfl ?_
  refine z_iconst (v := (nI 0)) S dX4_findsWords_1 (by decide) ?_
  refine z_put S (C := RX4) (T := TX4) (N := 12) (ci := 4) 9 tyX4_ok nmX4 m0_X4_findsWords m1_X4_findsWords (Nat.le_of_ble_eq_true rfl) (cM_0 X z0) rfl (Nat.le_of_ble_eq_true rfl) rfl rfl rfl rfl (Nat.le_of_ble_eq_true rfl) rfl dX4_findsWords_2 h (fun z_2 h => ?_)
  refine z_iconst (v := (nI 0)) S dX4_findsWords_5 (by decide) ?_
  refine z_istore_n S [(1, .int (nI 0)), (0, .ref (X.1 0))] dX4_findsWords_6 rfl (Nat.le_of_ble_eq_true rfl) rfl ?_
  exact z_lv [1, 0] rfl (tl_X4_findsWords_7 S _ _ _ h)
/-! SoldLettersModel.isWord: a walk -/
theorem hd_X4_isWord : yX4_isWord.cls = RX4 ∧ yX4_isWord.cls ≠ "java/lang/invoke/MethodHandle" ∧ yX4_isWord.cls ≠ "java/lang/invoke/VarHandle" ∧ (parseMethodDescriptor yX4_isWord.desc).map (fun d => d.parameters.length) = some 1 := by decide +kernel
theorem m0_X4_isWord : Cond.fieldLink RX4 57 RX4 (TX4 9).2.1 (TX4 9).2.2.1 ∈ wsX4_isWord := by decide +kernel
theorem m1_X4_isWord : ∀ w ∈ u_ws RX4 TX4 12, w ∈ wsX4_isWord := by decide +kernel
set_option maxHeartbeats 4000000 in
set_option maxRecDepth 100000 in
theorem c_X4_isWord (l : Launch) (D : va_G) (X : zE) (z0 : zV) (a0 : Int32) (hinj : zw_inj 9 X.1) {r : Int32} {z1 : zV} (h : f_X4_isWord z0 a0 = some (r, z1)) : zMw l yX4_isWord wsX4_isWord (zrm 2 45) D 9 X (zc shM X z0) [.ref (X.1 0), .int a0] (some (.int r)) (zc shM X z1) := by
  rw [f_X4_isWord] at h
  refine z_start_w (cc := cX4_isWord) (maxL := 2) (ret := (some .boolean)) (by decide) rfl (Nat.le_of_ble_eq_true rfl) hinj ?_
  intro p e s m below meth c S
  refine z_aload_n S 0 dX4_isWord_0 rfl rfl ?_
  obtain ⟨z_1, hv_1, h⟩ := ob_some h
  refine z_callV_w (As := []) S (c_X4_findsWords l D X _ S.2.2.1 hv_1) (cwV 0 S.1.2.2.2.2 gX4_isWord_X4_findsWords rfl rfl rfl hd_X4_findsWords ⟨Nat.le_of_ble_eq_true rfl, Nat.le_of_ble_eq_true rfl⟩) (Nat.le_of_ble_eq_true rfl) (cM_0 X z0) rfl rfl rfl (Nat.le_of_ble_eq_true rfl) rfl dX4_isWord_1 ?_
  refine z_iload_n S 1 dX4_isWord_4 rfl rfl ?_
  refine z_i2l S dX4_isWord_5 ?_
  refine z_lconst (v := (lN 0)) S dX4_isWord_6 (by decide) ?_
  refine z_aload_n S 0 dX4_isWord_7 rfl rfl ?_
  refine z_get S (C := RX4) (T := TX4) (N := 12) (ci := 4) 9 m0_X4_isWord m1_X4_isWord (Nat.le_of_ble_eq_true rfl) (cM_0 X z_1) rfl (Nat.le_of_ble_eq_true rfl) rfl rfl dX4_isWord_8 ?_
  refine z_i2l S dX4_isWord_11 ?_
  refine z_lconst (v := (lN 1)) S dX4_isWord_12 (by decide) ?_
  refine z_lsub S dX4_isWord_13 ?_
  obtain ⟨v_14, hv_14, h⟩ := ob_some h
  refine z_callS_r (As := [.long (Int32.toInt64 a0), .long (lN 0), .long ((Int32.toInt64 (z_1.1 0 9)) - (lN 1))]) S (c_X4_in l D X _ _ _ _ S.2.2.1 hv_14) (va_cwS 3 S.1.2.2.2.2 gX4_isWord_X4_in rfl rfl rfl hd_X4_in ⟨Nat.le_of_ble_eq_true rfl, Nat.le_of_ble_eq_true rfl⟩) rfl rfl (Nat.le_of_ble_eq_true rfl) rfl dX4_isWord_14 ?_
  exact z_zret_w S dX4_isWord_17 h
/-! SoldLettersModel.cellOf: a walk -/
theorem hd_X4_cellOf : yX4_cellOf.cls = RX4 ∧ yX4_cellOf.cls ≠ "java/lang/invoke/MethodHandle" ∧ yX4_cellOf.cls ≠ "java/lang/invoke/VarHandle" ∧ (parseMethodDescriptor yX4_cellOf.desc).map (fun d => d.parameters.length) = some 2 := by decide +kernel
theorem m0_X4_cellOf : Cond.fieldLink RX4 22 RX4 (TX4 6).2.1 (TX4 6).2.2.1 ∈ wsX4_cellOf := by decide +kernel
theorem m1_X4_cellOf : ∀ w ∈ u_ws RX4 TX4 12, w ∈ wsX4_cellOf := by decide +kernel
theorem m2_X4_cellOf : Cond.fieldLink RX4 28 RX4 (TX4 8).2.1 (TX4 8).2.2.1 ∈ wsX4_cellOf := by decide +kernel
set_option maxHeartbeats 4000000 in
set_option maxRecDepth 100000 in
theorem c_X4_cellOf (l : Launch) (D : va_G) (X : zE) (z0 : zV) (a0 : Int32) (a1 : Int32) (hinj : zw_inj 9 X.1) {r : Int32} (h : f_X4_cellOf z0 a0 a1 = some r) : zMr l yX4_cellOf wsX4_cellOf (zrm 0 0) D 9 X (zc shM X z0) [.ref (X.1 0), .int a0, .int a1] (some (.int r)) := by
  rw [f_X4_cellOf] at h
  refine z_start_r (cc := cX4_cellOf) (maxL := 3) (ret := (some .int)) (by decide) rfl (Nat.le_of_ble_eq_true rfl) hinj ?_
  intro p e s m below meth c S
  refine z_aload_n S 0 dX4_cellOf_0 rfl rfl ?_
  refine z_get S (C := RX4) (T := TX4) (N := 12) (ci := 4) 6 m0_X4_cellOf m1_X4_cellOf (Nat.le_of_ble_eq_true rfl) (cM_0 X z0) rfl (Nat.le_of_ble_eq_true rfl) rfl rfl dX4_cellOf_1 ?_
  refine z_iload_n S 1 dX4_cellOf_4 rfl rfl ?_
  refine z_iald S (Nat.le_of_ble_eq_true rfl) (cM_5 X z0) dX4_cellOf_5 h (fun v_5 h => ?_)
  refine z_aload_n S 0 dX4_cellOf_6 rfl rfl ?_
  refine z_get S (C := RX4) (T := TX4) (N := 12) (ci := 4) 8 m2_X4_cellOf m1_X4_cellOf (Nat.le_of_ble_eq_true rfl) (cM_0 X z0) rfl (Nat.le_of_ble_eq_true rfl) rfl rfl dX4_cellOf_7 ?_
  refine z_iload_n S 1 dX4_cellOf_10 rfl rfl ?_
  refine z_iald S (Nat.le_of_ble_eq_true rfl) (cM_7 X z0) dX4_cellOf_11 h (fun v_11 h => ?_)
  refine z_iload_n S 2 dX4_cellOf_12 rfl rfl ?_
  refine z_imul S dX4_cellOf_13 ?_
  refine z_iadd S dX4_cellOf_14 ?_
  exact z_iret_r S dX4_cellOf_15 h
/-! SoldLettersModel.hasNumber: a walk -/
theorem hd_X4_hasNumber : yX4_hasNumber.cls = RX4 ∧ yX4_hasNumber.cls ≠ "java/lang/invoke/MethodHandle" ∧ yX4_hasNumber.cls ≠ "java/lang/invoke/VarHandle" ∧ (parseMethodDescriptor yX4_hasNumber.desc).map (fun d => d.parameters.length) = some 2 := by decide +kernel
theorem m0_X4_hasNumber : Cond.fieldLink RX4 25 RX4 (TX4 7).2.1 (TX4 7).2.2.1 ∈ wsX4_hasNumber := by decide +kernel
theorem m1_X4_hasNumber : ∀ w ∈ u_ws RX4 TX4 12, w ∈ wsX4_hasNumber := by decide +kernel
set_option maxHeartbeats 4000000 in
set_option maxRecDepth 100000 in
theorem tl_X4_hasNumber_5 {l : Launch} {D : va_G} {X : zE} {p : Program} {e : Env} {s : State} {m : MethodId} {args : Array Value} {below : List Frame} {meth : Method} {c : Code} (S : zS p m meth c cX4_hasNumber 5 (some .boolean) s args wsX4_hasNumber RX4 D 9 X) {z0 : zV} {r : Int32} : ∀ (n_ : Nat), ∀ (x1 : Int32) (x2 : Int32) (x3 : Int32) (x4 : Int32), l_X4_hasNumber_5 z0 n_ x1 x2 x3 x4 = some r → Zj false D 9 X p l e (zrm 2 42) s m args below meth c (MQ below (zQr (some (.int r))) args s 0 0 (fun _ => False)) 5 5 [(0, .ref (X.1 0)), (1, .int x1), (2, .int x2), (3, .int x3), (4, .int x4)] [] (zc shM X z0) := by
  intro n_
  induction n_ with
  | zero =>
    intro x1 x2 x3 x4 h
    cases h
  | succ n_ ih =>
    intro x1 x2 x3 x4 h
    rw [l_X4_hasNumber_5] at h
    refine z_iload S 4 dX4_hasNumber_5 rfl ?_
    refine z_aload_n S 0 dX4_hasNumber_7 rfl rfl ?_
    refine z_get S (C := RX4) (T := TX4) (N := 12) (ci := 4) 7 m0_X4_hasNumber m1_X4_hasNumber (Nat.le_of_ble_eq_true rfl) (cM_0 X z0) rfl (Nat.le_of_ble_eq_true rfl) rfl rfl dX4_hasNumber_8 ?_
    refine z_iload_n S 1 dX4_hasNumber_11 rfl rfl ?_
    refine z_iald S (Nat.le_of_ble_eq_true rfl) (cM_6 X z0) dX4_hasNumber_12 h (fun v_12 h => ?_)
    refine z_icmp_ge S (tgt := 47) dX4_hasNumber_13 (by decide) h (fun h => ?_) (fun h => ?_)
    · refine z_iload_n S 3 dX4_hasNumber_47 rfl rfl ?_
      exact z_zret_r S dX4_hasNumber_48 h
    · refine z_iload_n S 3 dX4_hasNumber_16 rfl rfl ?_
      refine z_if_ne S (tgt := 35) dX4_hasNumber_17 (by decide) h (fun h => ?_) (fun h => ?_)
      · refine z_iconst (v := (nI 1)) S dX4_hasNumber_35 (by decide) ?_
        refine z_goto S (tgt := 40) dX4_hasNumber_36 (by decide) ?_
        refine z_istore_n S [(3, .int (nI 1)), (0, .ref (X.1 0)), (1, .int x1), (2, .int x2), (4, .int x4)] dX4_hasNumber_40 rfl (Nat.le_of_ble_eq_true rfl) rfl ?_
        refine z_iinc S 4 [(4, .int (x4 + nI 1)), (3, .int (nI 1)), (0, .ref (X.1 0)), (1, .int x1), (2, .int x2)] dX4_hasNumber_41 rfl rfl (Nat.le_of_ble_eq_true rfl) rfl ?_
        refine z_goto S (tgt := 5) dX4_hasNumber_44 (by decide) ?_
        exact z_lv [2, 3, 4, 1, 0] rfl (ih _ _ _ _ h)
      · refine z_aload_n S 0 dX4_hasNumber_20 rfl rfl ?_
        refine z_aload_n S 0 dX4_hasNumber_21 rfl rfl ?_
        refine z_iload_n S 1 dX4_hasNumber_22 rfl rfl ?_
        refine z_iload S 4 dX4_hasNumber_23 rfl ?_
        obtain ⟨v_25, hv_25, h⟩ := ob_some h
        refine z_callV_r (As := [.int x1, .int x4]) S (c_X4_cellOf l D X _ _ _ S.2.2.1 hv_25) (cwV 2 S.1.2.2.2.2 gX4_hasNumber_X4_cellOf rfl rfl rfl hd_X4_cellOf ⟨Nat.le_of_ble_eq_true rfl, Nat.le_of_ble_eq_true rfl⟩) (Nat.le_of_ble_eq_true rfl) (cM_0 X z0) rfl rfl rfl (Nat.le_of_ble_eq_true rfl) rfl dX4_hasNumber_25 ?_
        obtain ⟨v_28, hv_28, h⟩ := ob_some h
        refine z_callV_r (As := [.int v_25]) S (c_X4_numberAt l D X _ _ S.2.2.1 hv_28) (cwV 1 S.1.2.2.2.2 gX4_hasNumber_X4_numberAt rfl rfl rfl hd_X4_numberAt ⟨Nat.le_of_ble_eq_true rfl, Nat.le_of_ble_eq_true rfl⟩) (Nat.le_of_ble_eq_true rfl) (cM_0 X z0) rfl rfl rfl (Nat.le_of_ble_eq_true rfl) rfl dX4_hasNumber_28 ?_
        refine z_iload_n S 2 dX4_hasNumber_31 rfl rfl ?_
        refine z_icmp_ne S (tgt := 39) dX4_hasNumber_32 (by decide) h (fun h => ?_) (fun h => ?_)
        · refine z_iconst (v := (nI 0)) S dX4_hasNumber_39 (by decide) ?_
          refine z_istore_n S [(3, .int (nI 0)), (0, .ref (X.1 0)), (1, .int x1), (2, .int x2), (4, .int x4)] dX4_hasNumber_40 rfl (Nat.le_of_ble_eq_true rfl) rfl ?_
          refine z_iinc S 4 [(4, .int (x4 + nI 1)), (3, .int (nI 0)), (0, .ref (X.1 0)), (1, .int x1), (2, .int x2)] dX4_hasNumber_41 rfl rfl (Nat.le_of_ble_eq_true rfl) rfl ?_
          refine z_goto S (tgt := 5) dX4_hasNumber_44 (by decide) ?_
          exact z_lv [2, 3, 4, 1, 0] rfl (ih _ _ _ _ h)
        · refine z_iconst (v := (nI 1)) S dX4_hasNumber_35 (by decide) ?_
          refine z_goto S (tgt := 40) dX4_hasNumber_36 (by decide) ?_
          refine z_istore_n S [(3, .int (nI 1)), (0, .ref (X.1 0)), (1, .int x1), (2, .int x2), (4, .int x4)] dX4_hasNumber_40 rfl (Nat.le_of_ble_eq_true rfl) rfl ?_
          refine z_iinc S 4 [(4, .int (x4 + nI 1)), (3, .int (nI 1)), (0, .ref (X.1 0)), (1, .int x1), (2, .int x2)] dX4_hasNumber_41 rfl rfl (Nat.le_of_ble_eq_true rfl) rfl ?_
          refine z_goto S (tgt := 5) dX4_hasNumber_44 (by decide) ?_
          exact z_lv [2, 3, 4, 1, 0] rfl (ih _ _ _ _ h)
set_option maxHeartbeats 4000000 in
set_option maxRecDepth 100000 in
theorem c_X4_hasNumber (l : Launch) (D : va_G) (X : zE) (z0 : zV) (a0 : Int32) (a1 : Int32) (hinj : zw_inj 9 X.1) {r : Int32} (h : f_X4_hasNumber z0 a0 a1 = some r) : zMr l yX4_hasNumber wsX4_hasNumber (zrm 2 42) D 9 X (zc shM X z0) [.ref (X.1 0), .int a0, .int a1] (some (.int r)) := by
  rw [f_X4_hasNumber] at h
  refine z_start_r (cc := cX4_hasNumber) (maxL := 5) (ret := (some .boolean)) (by decide) rfl (Nat.le_of_ble_eq_true rfl) hinj ?_
  intro p e s m below meth c S
  refine z_iconst (v := (nI 0)) S dX4_hasNumber_0 (by decide) ?_
  refine z_istore_n S [(3, .int (nI 0)), (0, .ref (X.1 0)), (1, .int a0), (2, .int a1)] dX4_hasNumber_1 rfl (Nat.le_of_ble_eq_true rfl) rfl ?_
  refine z_iconst (v := (nI 0)) S dX4_hasNumber_2 (by decide) ?_
  refine z_istore S [(4, .int (nI 0)), (3, .int (nI 0)), (0, .ref (X.1 0)), (1, .int a0), (2, .int a1)] dX4_hasNumber_3 (Nat.le_of_ble_eq_true rfl) rfl ?_
  exact z_lv [2, 3, 4, 1, 0] rfl (tl_X4_hasNumber_5 S _ _ _ _ _ h)
/-! SoldLettersModel.wordsWith: a walk -/
theorem hd_X4_wordsWith : yX4_wordsWith.cls = RX4 ∧ yX4_wordsWith.cls ≠ "java/lang/invoke/MethodHandle" ∧ yX4_wordsWith.cls ≠ "java/lang/invoke/VarHandle" ∧ (parseMethodDescriptor yX4_wordsWith.desc).map (fun d => d.parameters.length) = some 1 := by decide +kernel
theorem m0_X4_wordsWith : Cond.fieldLink RX4 57 RX4 (TX4 9).2.1 (TX4 9).2.2.1 ∈ wsX4_wordsWith := by decide +kernel
theorem m1_X4_wordsWith : ∀ w ∈ u_ws RX4 TX4 12, w ∈ wsX4_wordsWith := by decide +kernel
set_option maxHeartbeats 4000000 in
set_option maxRecDepth 100000 in
theorem tl_X4_wordsWith_8 {l : Launch} {D : va_G} {X : zE} {p : Program} {e : Env} {s : State} {m : MethodId} {args : Array Value} {below : List Frame} {meth : Method} {c : Code} (S : zS p m meth c cX4_wordsWith 4 (some .int) s args wsX4_wordsWith RX4 D 9 X) {r : Int32} {z1 : zV} : ∀ (n_ : Nat), ∀ (z0 : zV) (x1 : Int32) (x2 : Int32) (x3 : Int32), l_X4_wordsWith_8 n_ z0 x1 x2 x3 = some (r, z1) → Zj true D 9 X p l e (zrm 3 66) s m args below meth c (MQ below (zQw D 9 X (zc shM X z1) (some (.int r))) args s 0 0 (zw_A 9 X.1)) 4 8 [(0, .ref (X.1 0)), (1, .int x1), (2, .int x2), (3, .int x3)] [] (zc shM X z0) := by
  intro n_
  induction n_ with
  | zero =>
    intro z0 x1 x2 x3 h
    cases h
  | succ n_ ih =>
    intro z0 x1 x2 x3 h
    rw [l_X4_wordsWith_8] at h
    refine z_iload_n S 3 dX4_wordsWith_8 rfl rfl ?_
    refine z_aload_n S 0 dX4_wordsWith_9 rfl rfl ?_
    refine z_get S (C := RX4) (T := TX4) (N := 12) (ci := 4) 9 m0_X4_wordsWith m1_X4_wordsWith (Nat.le_of_ble_eq_true rfl) (cM_0 X z0) rfl (Nat.le_of_ble_eq_true rfl) rfl rfl dX4_wordsWith_10 ?_
    refine z_icmp_ge S (tgt := 39) dX4_wordsWith_13 (by decide) h (fun h => ?_) (fun h => ?_)
    · refine z_iload_n S 2 dX4_wordsWith_39 rfl rfl ?_
      exact z_iret_w S dX4_wordsWith_40 h
    · refine z_iload_n S 2 dX4_wordsWith_16 rfl rfl ?_
      refine z_aload_n S 0 dX4_wordsWith_17 rfl rfl ?_
      refine z_iload_n S 3 dX4_wordsWith_18 rfl rfl ?_
      refine z_iload_n S 1 dX4_wordsWith_19 rfl rfl ?_
      obtain ⟨v_20, hv_20, h⟩ := ob_some h
      refine z_callV_r (As := [.int x3, .int x1]) S (c_X4_hasNumber l D X _ _ _ S.2.2.1 hv_20) (cwV 2 S.1.2.2.2.2 gX4_wordsWith_X4_hasNumber rfl rfl rfl hd_X4_hasNumber ⟨Nat.le_of_ble_eq_true rfl, Nat.le_of_ble_eq_true rfl⟩) (Nat.le_of_ble_eq_true rfl) (cM_0 X z0) rfl rfl rfl (Nat.le_of_ble_eq_true rfl) rfl dX4_wordsWith_20 ?_
      refine z_if_eq S (tgt := 30) dX4_wordsWith_23 (by decide) h (fun h => ?_) (fun h => ?_)
      · refine z_iconst (v := (nI 0)) S dX4_wordsWith_30 (by decide) ?_
        refine z_iadd S dX4_wordsWith_31 ?_
        refine z_istore_n S [(2, .int (x2 + (nI 0))), (0, .ref (X.1 0)), (1, .int x1), (3, .int x3)] dX4_wordsWith_32 rfl (Nat.le_of_ble_eq_true rfl) rfl ?_
        refine z_iinc S 3 [(3, .int (x3 + nI 1)), (2, .int (x2 + (nI 0))), (0, .ref (X.1 0)), (1, .int x1)] dX4_wordsWith_33 rfl rfl (Nat.le_of_ble_eq_true rfl) rfl ?_
        refine z_goto S (tgt := 8) dX4_wordsWith_36 (by decide) ?_
        exact z_lv [2, 3, 1, 0] rfl (ih _ _ _ _ h)
      · refine z_iconst (v := (nI 1)) S dX4_wordsWith_26 (by decide) ?_
        refine z_goto S (tgt := 31) dX4_wordsWith_27 (by decide) ?_
        refine z_iadd S dX4_wordsWith_31 ?_
        refine z_istore_n S [(2, .int (x2 + (nI 1))), (0, .ref (X.1 0)), (1, .int x1), (3, .int x3)] dX4_wordsWith_32 rfl (Nat.le_of_ble_eq_true rfl) rfl ?_
        refine z_iinc S 3 [(3, .int (x3 + nI 1)), (2, .int (x2 + (nI 1))), (0, .ref (X.1 0)), (1, .int x1)] dX4_wordsWith_33 rfl rfl (Nat.le_of_ble_eq_true rfl) rfl ?_
        refine z_goto S (tgt := 8) dX4_wordsWith_36 (by decide) ?_
        exact z_lv [2, 3, 1, 0] rfl (ih _ _ _ _ h)
set_option maxHeartbeats 4000000 in
set_option maxRecDepth 100000 in
theorem c_X4_wordsWith (l : Launch) (D : va_G) (X : zE) (z0 : zV) (a0 : Int32) (hinj : zw_inj 9 X.1) {r : Int32} {z1 : zV} (h : f_X4_wordsWith z0 a0 = some (r, z1)) : zMw l yX4_wordsWith wsX4_wordsWith (zrm 3 66) D 9 X (zc shM X z0) [.ref (X.1 0), .int a0] (some (.int r)) (zc shM X z1) := by
  rw [f_X4_wordsWith] at h
  refine z_start_w (cc := cX4_wordsWith) (maxL := 4) (ret := (some .int)) (by decide) rfl (Nat.le_of_ble_eq_true rfl) hinj ?_
  intro p e s m below meth c S
  refine z_aload_n S 0 dX4_wordsWith_0 rfl rfl ?_
  obtain ⟨z_1, hv_1, h⟩ := ob_some h
  refine z_callV_w (As := []) S (c_X4_findsWords l D X _ S.2.2.1 hv_1) (cwV 0 S.1.2.2.2.2 gX4_wordsWith_X4_findsWords rfl rfl rfl hd_X4_findsWords ⟨Nat.le_of_ble_eq_true rfl, Nat.le_of_ble_eq_true rfl⟩) (Nat.le_of_ble_eq_true rfl) (cM_0 X z0) rfl rfl rfl (Nat.le_of_ble_eq_true rfl) rfl dX4_wordsWith_1 ?_
  refine z_iconst (v := (nI 0)) S dX4_wordsWith_4 (by decide) ?_
  refine z_istore_n S [(2, .int (nI 0)), (0, .ref (X.1 0)), (1, .int a0)] dX4_wordsWith_5 rfl (Nat.le_of_ble_eq_true rfl) rfl ?_
  refine z_iconst (v := (nI 0)) S dX4_wordsWith_6 (by decide) ?_
  refine z_istore_n S [(3, .int (nI 0)), (2, .int (nI 0)), (0, .ref (X.1 0)), (1, .int a0)] dX4_wordsWith_7 rfl (Nat.le_of_ble_eq_true rfl) rfl ?_
  exact z_lv [2, 3, 1, 0] rfl (tl_X4_wordsWith_8 S _ _ _ _ _ h)
/-! SoldLettersModel.wordAt: a walk -/
theorem hd_X4_wordAt : yX4_wordAt.cls = RX4 ∧ yX4_wordAt.cls ≠ "java/lang/invoke/MethodHandle" ∧ yX4_wordAt.cls ≠ "java/lang/invoke/VarHandle" ∧ (parseMethodDescriptor yX4_wordAt.desc).map (fun d => d.parameters.length) = some 2 := by decide +kernel
theorem m0_X4_wordAt : Cond.fieldLink RX4 57 RX4 (TX4 9).2.1 (TX4 9).2.2.1 ∈ wsX4_wordAt := by decide +kernel
theorem m1_X4_wordAt : ∀ w ∈ u_ws RX4 TX4 12, w ∈ wsX4_wordAt := by decide +kernel
theorem m2_X4_wordAt : Cond.fieldLink RX4 25 RX4 (TX4 7).2.1 (TX4 7).2.2.1 ∈ wsX4_wordAt := by decide +kernel
theorem m3_X4_wordAt : Cond.fieldLink RX4 28 RX4 (TX4 8).2.1 (TX4 8).2.2.1 ∈ wsX4_wordAt := by decide +kernel
set_option maxHeartbeats 4000000 in
set_option maxRecDepth 100000 in
theorem tl_X4_wordAt_17 {l : Launch} {D : va_G} {X : zE} {p : Program} {e : Env} {s : State} {m : MethodId} {args : Array Value} {below : List Frame} {meth : Method} {c : Code} (S : zS p m meth c cX4_wordAt 5 (some .int) s args wsX4_wordAt RX4 D 9 X) {r : Int32} {z1 : zV} {k_6 : zV → Int32 → Int32 → Int32 → Option (Int32 × zV)} (hk_6 : ∀ (z0 : zV) (x1 : Int32) (x2 : Int32) (x3 : Int32), k_6 z0 x1 x2 x3 = some (r, z1) → Zj true D 9 X p l e (zrm 2 45) s m args below meth c (MQ below (zQw D 9 X (zc shM X z1) (some (.int r))) args s 0 0 (zw_A 9 X.1)) 5 6 [(0, .ref (X.1 0)), (1, .int x1), (2, .int x2), (3, .int x3)] [] (zc shM X z0)) : ∀ (n_ : Nat), ∀ (z0 : zV) (x1 : Int32) (x2 : Int32) (x3 : Int32) (x4 : Int32), l_X4_wordAt_17 k_6 n_ z0 x1 x2 x3 x4 = some (r, z1) → Zj true D 9 X p l e (zrm 2 45) s m args below meth c (MQ below (zQw D 9 X (zc shM X z1) (some (.int r))) args s 0 0 (zw_A 9 X.1)) 5 17 [(0, .ref (X.1 0)), (1, .int x1), (2, .int x2), (3, .int x3), (4, .int x4)] [] (zc shM X z0) := by
  intro n_
  induction n_ with
  | zero =>
    intro z0 x1 x2 x3 x4 h
    cases h
  | succ n_ ih =>
    intro z0 x1 x2 x3 x4 h
    rw [l_X4_wordAt_17] at h
    refine z_iload S 4 dX4_wordAt_17 rfl ?_
    refine z_aload_n S 0 dX4_wordAt_19 rfl rfl ?_
    refine z_get S (C := RX4) (T := TX4) (N := 12) (ci := 4) 7 m2_X4_wordAt m1_X4_wordAt (Nat.le_of_ble_eq_true rfl) (cM_0 X z0) rfl (Nat.le_of_ble_eq_true rfl) rfl rfl dX4_wordAt_20 ?_
    refine z_iload_n S 3 dX4_wordAt_23 rfl rfl ?_
    refine z_iald S (Nat.le_of_ble_eq_true rfl) (cM_6 X z0) dX4_wordAt_24 h (fun v_24 h => ?_)
    refine z_icmp_ge S (tgt := 57) dX4_wordAt_25 (by decide) h (fun h => ?_) (fun h => ?_)
    · refine z_iinc S 3 [(3, .int (x3 + nI 1)), (0, .ref (X.1 0)), (1, .int x1), (2, .int x2), (4, .int x4)] dX4_wordAt_57 rfl rfl (Nat.le_of_ble_eq_true rfl) rfl ?_
      refine z_goto S (tgt := 6) dX4_wordAt_60 (by decide) ?_
      exact z_lv [1, 2, 3, 0] rfl (hk_6 _ _ _ _ h)
    · refine z_aload_n S 0 dX4_wordAt_28 rfl rfl ?_
      refine z_get S (C := RX4) (T := TX4) (N := 12) (ci := 4) 8 m3_X4_wordAt m1_X4_wordAt (Nat.le_of_ble_eq_true rfl) (cM_0 X z0) rfl (Nat.le_of_ble_eq_true rfl) rfl rfl dX4_wordAt_29 ?_
      refine z_iload_n S 3 dX4_wordAt_32 rfl rfl ?_
      refine z_iald S (Nat.le_of_ble_eq_true rfl) (cM_7 X z0) dX4_wordAt_33 h (fun v_33 h => ?_)
      refine z_iload_n S 2 dX4_wordAt_34 rfl rfl ?_
      refine z_icmp_ne S (tgt := 51) dX4_wordAt_35 (by decide) h (fun h => ?_) (fun h => ?_)
      · refine z_iinc S 4 [(4, .int (x4 + nI 1)), (0, .ref (X.1 0)), (1, .int x1), (2, .int x2), (3, .int x3)] dX4_wordAt_51 rfl rfl (Nat.le_of_ble_eq_true rfl) rfl ?_
        refine z_goto S (tgt := 17) dX4_wordAt_54 (by decide) ?_
        exact z_lv [1, 2, 3, 4, 0] rfl (ih _ _ _ _ _ h)
      · refine z_aload_n S 0 dX4_wordAt_38 rfl rfl ?_
        refine z_iload_n S 3 dX4_wordAt_39 rfl rfl ?_
        refine z_iload S 4 dX4_wordAt_40 rfl ?_
        obtain ⟨v_42, hv_42, h⟩ := ob_some h
        refine z_callV_r (As := [.int x3, .int x4]) S (c_X4_cellOf l D X _ _ _ S.2.2.1 hv_42) (cwV 2 S.1.2.2.2.2 gX4_wordAt_X4_cellOf rfl rfl rfl hd_X4_cellOf ⟨Nat.le_of_ble_eq_true rfl, Nat.le_of_ble_eq_true rfl⟩) (Nat.le_of_ble_eq_true rfl) (cM_0 X z0) rfl rfl rfl (Nat.le_of_ble_eq_true rfl) rfl dX4_wordAt_42 ?_
        refine z_iload_n S 1 dX4_wordAt_45 rfl rfl ?_
        refine z_icmp_ne S (tgt := 51) dX4_wordAt_46 (by decide) h (fun h => ?_) (fun h => ?_)
        · refine z_iinc S 4 [(4, .int (x4 + nI 1)), (0, .ref (X.1 0)), (1, .int x1), (2, .int x2), (3, .int x3)] dX4_wordAt_51 rfl rfl (Nat.le_of_ble_eq_true rfl) rfl ?_
          refine z_goto S (tgt := 17) dX4_wordAt_54 (by decide) ?_
          exact z_lv [1, 2, 3, 4, 0] rfl (ih _ _ _ _ _ h)
        · refine z_iload_n S 3 dX4_wordAt_49 rfl rfl ?_
          exact z_iret_w S dX4_wordAt_50 h
set_option maxHeartbeats 4000000 in
set_option maxRecDepth 100000 in
theorem tl_X4_wordAt_6 {l : Launch} {D : va_G} {X : zE} {p : Program} {e : Env} {s : State} {m : MethodId} {args : Array Value} {below : List Frame} {meth : Method} {c : Code} (S : zS p m meth c cX4_wordAt 5 (some .int) s args wsX4_wordAt RX4 D 9 X) {r : Int32} {z1 : zV} : ∀ (n_ : Nat), ∀ (z0 : zV) (x1 : Int32) (x2 : Int32) (x3 : Int32), l_X4_wordAt_6 n_ z0 x1 x2 x3 = some (r, z1) → Zj true D 9 X p l e (zrm 2 45) s m args below meth c (MQ below (zQw D 9 X (zc shM X z1) (some (.int r))) args s 0 0 (zw_A 9 X.1)) 5 6 [(0, .ref (X.1 0)), (1, .int x1), (2, .int x2), (3, .int x3)] [] (zc shM X z0) := by
  intro n_
  induction n_ with
  | zero =>
    intro z0 x1 x2 x3 h
    cases h
  | succ n_ ih =>
    intro z0 x1 x2 x3 h
    rw [l_X4_wordAt_6] at h
    refine z_iload_n S 3 dX4_wordAt_6 rfl rfl ?_
    refine z_aload_n S 0 dX4_wordAt_7 rfl rfl ?_
    refine z_get S (C := RX4) (T := TX4) (N := 12) (ci := 4) 9 m0_X4_wordAt m1_X4_wordAt (Nat.le_of_ble_eq_true rfl) (cM_0 X z0) rfl (Nat.le_of_ble_eq_true rfl) rfl rfl dX4_wordAt_8 ?_
    refine z_icmp_ge S (tgt := 63) dX4_wordAt_11 (by decide) h (fun h => ?_) (fun h => ?_)
    · refine z_bipush (v := (-5)) S dX4_wordAt_63 (by decide) ?_
      exact z_iret_w S dX4_wordAt_65 h
    · refine z_iconst (v := (nI 0)) S dX4_wordAt_14 (by decide) ?_
      refine z_istore S [(4, .int (nI 0)), (0, .ref (X.1 0)), (1, .int x1), (2, .int x2), (3, .int x3)] dX4_wordAt_15 (Nat.le_of_ble_eq_true rfl) rfl ?_
      exact z_lv [1, 2, 3, 4, 0] rfl (tl_X4_wordAt_17 S ih _ _ _ _ _ _ h)
set_option maxHeartbeats 4000000 in
set_option maxRecDepth 100000 in
theorem c_X4_wordAt (l : Launch) (D : va_G) (X : zE) (z0 : zV) (a0 : Int32) (a1 : Int32) (hinj : zw_inj 9 X.1) {r : Int32} {z1 : zV} (h : f_X4_wordAt z0 a0 a1 = some (r, z1)) : zMw l yX4_wordAt wsX4_wordAt (zrm 2 45) D 9 X (zc shM X z0) [.ref (X.1 0), .int a0, .int a1] (some (.int r)) (zc shM X z1) := by
  rw [f_X4_wordAt] at h
  refine z_start_w (cc := cX4_wordAt) (maxL := 5) (ret := (some .int)) (by decide) rfl (Nat.le_of_ble_eq_true rfl) hinj ?_
  intro p e s m below meth c S
  refine z_aload_n S 0 dX4_wordAt_0 rfl rfl ?_
  obtain ⟨z_1, hv_1, h⟩ := ob_some h
  refine z_callV_w (As := []) S (c_X4_findsWords l D X _ S.2.2.1 hv_1) (cwV 0 S.1.2.2.2.2 gX4_wordAt_X4_findsWords rfl rfl rfl hd_X4_findsWords ⟨Nat.le_of_ble_eq_true rfl, Nat.le_of_ble_eq_true rfl⟩) (Nat.le_of_ble_eq_true rfl) (cM_0 X z0) rfl rfl rfl (Nat.le_of_ble_eq_true rfl) rfl dX4_wordAt_1 ?_
  refine z_iconst (v := (nI 0)) S dX4_wordAt_4 (by decide) ?_
  refine z_istore_n S [(3, .int (nI 0)), (0, .ref (X.1 0)), (1, .int a0), (2, .int a1)] dX4_wordAt_5 rfl (Nat.le_of_ble_eq_true rfl) rfl ?_
  exact z_lv [1, 2, 3, 0] rfl (tl_X4_wordAt_6 S _ _ _ _ _ h)
