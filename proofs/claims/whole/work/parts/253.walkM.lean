/-! SoldLettersModel.setRow: a walk -/
theorem hd_X4_setRow : yX4_setRow.cls = RX4 ∧ yX4_setRow.cls ≠ "java/lang/invoke/MethodHandle" ∧ yX4_setRow.cls ≠ "java/lang/invoke/VarHandle" ∧ (parseMethodDescriptor yX4_setRow.desc).map (fun d => d.parameters.length) = some 1 := by decide +kernel
theorem m0_X4_setRow : Jvm.Cond.constantLong RX4 99 6 ∈ wsX4_setRow := by decide +kernel
theorem m1_X4_setRow : Cond.fieldLink RX4 57 RX4 (TX4 9).2.1 (TX4 9).2.2.1 ∈ wsX4_setRow := by decide +kernel
theorem m2_X4_setRow : ∀ w ∈ u_ws RX4 TX4 12, w ∈ wsX4_setRow := by decide +kernel
theorem m3_X4_setRow : Cond.fieldLink RX4 7 RX4 (TX4 0).2.1 (TX4 0).2.2.1 ∈ wsX4_setRow := by decide +kernel
theorem m4_X4_setRow : Cond.fieldLink RX4 88 RX4 (TX4 11).2.1 (TX4 11).2.2.1 ∈ wsX4_setRow := by decide +kernel
theorem m5_X4_setRow : Cond.fieldLink RX4 31 RX4 (TX4 10).2.1 (TX4 10).2.2.1 ∈ wsX4_setRow := by decide +kernel
set_option maxHeartbeats 4000000 in
set_option maxRecDepth 100000 in
theorem tl_X4_setRow_36 {l : Launch} {D : va_G} {X : zE} {p : Program} {e : Env} {s : State} {m : MethodId} {args : Array Value} {below : List Frame} {meth : Method} {c : Code} (S : zS p m meth c cX4_setRow 4 (some .int) s args wsX4_setRow RX4 D 9 X) {r : Int32} {z1 : zV} : ∀ (n_ : Nat), ∀ (z0 : zV) (x1 : Int32) (x3 : Int32), l_X4_setRow_36 n_ z0 x1 x3 = some (r, z1) → Zj true D 9 X p l e (zrm 3 67) s m args below meth c (MQ below (zQw D 9 X (zc shM X z1) (some (.int r))) args s 0 0 (zw_A 9 X.1)) 4 36 [(0, .ref (X.1 0)), (1, .int x1), (3, .int x3)] [] (zc shM X z0) := by
  intro n_
  induction n_ with
  | zero =>
    intro z0 x1 x3 h
    cases h
  | succ n_ ih =>
    intro z0 x1 x3 h
    rw [l_X4_setRow_36] at h
    refine z_iload_n S 2 dX4_setRow_36 rfl rfl ?_
    refine z_bipush (v := (nI 7)) S dX4_setRow_37 (by decide) ?_
    refine z_icmp_ge S (tgt := 93) dX4_setRow_39 (by decide) h (fun h => ?_) (fun h => ?_)
    · refine z_aload_n S 0 dX4_setRow_93 rfl rfl ?_
      obtain ⟨z_94, hv_94, h⟩ := ob_some h
      refine z_callV_w (As := []) S (c_X4_forgets l D X _ S.2.2.1 hv_94) (cwV 0 S.1.2.2.2.2 gX4_setRow_X4_forgets rfl rfl rfl hd_X4_forgets ⟨Nat.le_of_ble_eq_true rfl, Nat.le_of_ble_eq_true rfl⟩) (Nat.le_of_ble_eq_true rfl) (cM_0 X z0) rfl rfl rfl (Nat.le_of_ble_eq_true rfl) rfl dX4_setRow_94 ?_
      refine z_aload_n S 0 dX4_setRow_97 rfl rfl ?_
      obtain ⟨z_98, hv_98, h⟩ := ob_some h
      refine z_callV_w (As := []) S (c_X4_findsWords l D X _ S.2.2.1 hv_98) (cwV 0 S.1.2.2.2.2 gX4_setRow_X4_findsWords rfl rfl rfl hd_X4_findsWords ⟨Nat.le_of_ble_eq_true rfl, Nat.le_of_ble_eq_true rfl⟩) (Nat.le_of_ble_eq_true rfl) (cM_0 X z_94) rfl rfl rfl (Nat.le_of_ble_eq_true rfl) rfl dX4_setRow_98 ?_
      refine z_aload_n S 0 dX4_setRow_101 rfl rfl ?_
      refine z_aload_n S 0 dX4_setRow_102 rfl rfl ?_
      refine z_get S (C := RX4) (T := TX4) (N := 12) (ci := 4) 9 m1_X4_setRow m2_X4_setRow (Nat.le_of_ble_eq_true rfl) (cM_0 X z_98) rfl (Nat.le_of_ble_eq_true rfl) rfl rfl dX4_setRow_103 ?_
      obtain ⟨v_106, z_106, hv_106, h⟩ := bd2_some h
      refine z_callV_w (As := [.int (z_98.1 0 9)]) S (c_X4_acted l D X _ _ S.2.2.1 hv_106) (cwV 1 S.1.2.2.2.2 gX4_setRow_X4_acted rfl rfl rfl hd_X4_acted ⟨Nat.le_of_ble_eq_true rfl, Nat.le_of_ble_eq_true rfl⟩) (Nat.le_of_ble_eq_true rfl) (cM_0 X z_98) rfl rfl rfl (Nat.le_of_ble_eq_true rfl) rfl dX4_setRow_106 ?_
      exact z_iret_w S dX4_setRow_109 h
    · refine z_aload_n S 0 dX4_setRow_42 rfl rfl ?_
      refine z_get S (C := RX4) (T := TX4) (N := 12) (ci := 4) 0 m3_X4_setRow m2_X4_setRow (Nat.le_of_ble_eq_true rfl) (cM_0 X z0) rfl (Nat.le_of_ble_eq_true rfl) rfl rfl dX4_setRow_43 ?_
      refine z_iconst (v := (nI 0)) S dX4_setRow_46 (by decide) ?_
      refine z_bipush (v := (nI 7)) S dX4_setRow_47 (by decide) ?_
      refine z_iload_n S 1 dX4_setRow_49 rfl rfl ?_
      refine z_imul S dX4_setRow_50 ?_
      refine z_iadd S dX4_setRow_51 ?_
      refine z_iload_n S 2 dX4_setRow_52 rfl rfl ?_
      refine z_iadd S dX4_setRow_53 ?_
      refine z_iload_n S 2 dX4_setRow_54 rfl rfl ?_
      refine z_aload_n S 0 dX4_setRow_55 rfl rfl ?_
      refine z_get S (C := RX4) (T := TX4) (N := 12) (ci := 4) 11 m4_X4_setRow m2_X4_setRow (Nat.le_of_ble_eq_true rfl) (cM_0 X z0) rfl (Nat.le_of_ble_eq_true rfl) rfl rfl dX4_setRow_56 ?_
      refine z_icmp_ge S (tgt := 85) dX4_setRow_59 (by decide) h (fun h => ?_) (fun h => ?_)
      · refine z_iconst (v := (-1)) S dX4_setRow_85 (by decide) ?_
        refine z_iast S (Nat.le_of_ble_eq_true rfl) (fun _ => rfl) dX4_setRow_86 h (fun z_86 h => ?_)
        refine z_iinc S 2 [(3, .int (x3 + nI 1)), (0, .ref (X.1 0)), (1, .int x1)] dX4_setRow_87 rfl rfl (Nat.le_of_ble_eq_true rfl) rfl ?_
        refine z_goto S (tgt := 36) dX4_setRow_90 (by decide) ?_
        exact z_lv [1, 2, 0] rfl (ih _ _ _ h)
      · refine z_aload_n S 0 dX4_setRow_62 rfl rfl ?_
        refine z_get S (C := RX4) (T := TX4) (N := 12) (ci := 4) 10 m5_X4_setRow m2_X4_setRow (Nat.le_of_ble_eq_true rfl) (cM_0 X z0) rfl (Nat.le_of_ble_eq_true rfl) rfl rfl dX4_setRow_63 ?_
        refine z_iload_n S 2 dX4_setRow_66 rfl rfl ?_
        refine z_iald S (Nat.le_of_ble_eq_true rfl) (cM_8 X z0) dX4_setRow_67 h (fun v_67 h => ?_)
        refine z_bipush (v := (nI 46)) S dX4_setRow_68 (by decide) ?_
        refine z_icmp_eq S (tgt := 85) dX4_setRow_70 (by decide) h (fun h => ?_) (fun h => ?_)
        · refine z_iconst (v := (-1)) S dX4_setRow_85 (by decide) ?_
          refine z_iast S (Nat.le_of_ble_eq_true rfl) (fun _ => rfl) dX4_setRow_86 h (fun z_86 h => ?_)
          refine z_iinc S 2 [(3, .int (x3 + nI 1)), (0, .ref (X.1 0)), (1, .int x1)] dX4_setRow_87 rfl rfl (Nat.le_of_ble_eq_true rfl) rfl ?_
          refine z_goto S (tgt := 36) dX4_setRow_90 (by decide) ?_
          exact z_lv [1, 2, 0] rfl (ih _ _ _ h)
        · refine z_aload_n S 0 dX4_setRow_73 rfl rfl ?_
          refine z_get S (C := RX4) (T := TX4) (N := 12) (ci := 4) 10 m5_X4_setRow m2_X4_setRow (Nat.le_of_ble_eq_true rfl) (cM_0 X z0) rfl (Nat.le_of_ble_eq_true rfl) rfl rfl dX4_setRow_74 ?_
          refine z_iload_n S 2 dX4_setRow_77 rfl rfl ?_
          refine z_iald S (Nat.le_of_ble_eq_true rfl) (cM_8 X z0) dX4_setRow_78 h (fun v_78 h => ?_)
          refine z_bipush (v := (nI 97)) S dX4_setRow_79 (by decide) ?_
          refine z_isub S dX4_setRow_81 ?_
          refine z_goto S (tgt := 86) dX4_setRow_82 (by decide) ?_
          refine z_iast S (Nat.le_of_ble_eq_true rfl) (fun _ => rfl) dX4_setRow_86 h (fun z_86 h => ?_)
          refine z_iinc S 2 [(3, .int (x3 + nI 1)), (0, .ref (X.1 0)), (1, .int x1)] dX4_setRow_87 rfl rfl (Nat.le_of_ble_eq_true rfl) rfl ?_
          refine z_goto S (tgt := 36) dX4_setRow_90 (by decide) ?_
          exact z_lv [1, 2, 0] rfl (ih _ _ _ h)
set_option maxHeartbeats 4000000 in
set_option maxRecDepth 100000 in
theorem c_X4_setRow (l : Launch) (D : va_G) (X : zE) (z0 : zV) (a0 : Int32) (hinj : zw_inj 9 X.1) {r : Int32} {z1 : zV} (h : f_X4_setRow z0 a0 = some (r, z1)) : zMw l yX4_setRow wsX4_setRow (zrm 3 67) D 9 X (zc shM X z0) [.ref (X.1 0), .int a0] (some (.int r)) (zc shM X z1) := by
  rw [f_X4_setRow] at h
  refine z_start_w (cc := cX4_setRow) (maxL := 4) (ret := (some .int)) (by decide) rfl (Nat.le_of_ble_eq_true rfl) hinj ?_
  intro p e s m below meth c S
  refine z_iload_n S 1 dX4_setRow_0 rfl rfl ?_
  refine z_i2l S dX4_setRow_1 ?_
  refine z_lconst (v := (lN 0)) S dX4_setRow_2 (by decide) ?_
  refine z_ldc2 (v := (lN 6)) S m0_X4_setRow dX4_setRow_3 ?_
  obtain ⟨v_6, hv_6, h⟩ := ob_some h
  refine z_callS_r (As := [.long (Int32.toInt64 a0), .long (lN 0), .long (lN 6)]) S (c_X4_in l D X _ _ _ _ S.2.2.1 hv_6) (va_cwS 3 S.1.2.2.2.2 gX4_setRow_X4_in rfl rfl rfl hd_X4_in ⟨Nat.le_of_ble_eq_true rfl, Nat.le_of_ble_eq_true rfl⟩) rfl rfl (Nat.le_of_ble_eq_true rfl) rfl dX4_setRow_6 ?_
  refine z_if_ne S (tgt := 14) dX4_setRow_9 (by decide) h (fun h => ?_) (fun h => ?_)
  · refine z_aload_n S 0 dX4_setRow_14 rfl rfl ?_
    obtain ⟨v_15, hv_15, h⟩ := ob_some h
    refine z_callV_r (As := []) S (c_X4_faultOfRow l D X _ S.2.2.1 hv_15) (cwV 0 S.1.2.2.2.2 gX4_setRow_X4_faultOfRow rfl rfl rfl hd_X4_faultOfRow ⟨Nat.le_of_ble_eq_true rfl, Nat.le_of_ble_eq_true rfl⟩) (Nat.le_of_ble_eq_true rfl) (cM_0 X z0) rfl rfl rfl (Nat.le_of_ble_eq_true rfl) rfl dX4_setRow_15 ?_
    refine z_istore_n S [(2, .int v_15), (0, .ref (X.1 0)), (1, .int a0)] dX4_setRow_18 rfl (Nat.le_of_ble_eq_true rfl) rfl ?_
    refine z_iload_n S 0 dX4_setRow_19 rfl rfl ?_
    refine z_bipush (v := (-5)) S dX4_setRow_20 (by decide) ?_
    refine z_icmp_eq S (tgt := 30) dX4_setRow_22 (by decide) h (fun h => ?_) (fun h => ?_)
    · refine z_aload_n S 1 dX4_setRow_30 rfl rfl ?_
      obtain ⟨z_31, hv_31, h⟩ := ob_some h
      refine z_callV_w (As := []) S (c_X4_remember l D X _ S.2.2.1 hv_31) (cwV 0 S.1.2.2.2.2 gX4_setRow_X4_remember rfl rfl rfl hd_X4_remember ⟨Nat.le_of_ble_eq_true rfl, Nat.le_of_ble_eq_true rfl⟩) (Nat.le_of_ble_eq_true rfl) (cM_0 X z0) rfl rfl rfl (Nat.le_of_ble_eq_true rfl) rfl dX4_setRow_31 ?_
      refine z_iconst (v := (nI 0)) S dX4_setRow_34 (by decide) ?_
      refine z_istore_n S [(3, .int (nI 0)), (2, .int v_15), (0, .ref (X.1 0)), (1, .int a0)] dX4_setRow_35 rfl (Nat.le_of_ble_eq_true rfl) rfl ?_
      exact z_lv [2, 3, 0] rfl (tl_X4_setRow_36 S _ _ _ _ h)
    · refine z_bipush (v := (-100)) S dX4_setRow_25 (by decide) ?_
      refine z_iload_n S 0 dX4_setRow_27 rfl rfl ?_
      refine z_isub S dX4_setRow_28 ?_
      exact z_iret_w S dX4_setRow_29 h
  · refine z_iconst (v := (-1)) S dX4_setRow_12 (by decide) ?_
    exact z_iret_w S dX4_setRow_13 h
/-! SoldLettersModel.setKey: a walk -/
theorem hd_X4_setKey : yX4_setKey.cls = RX4 ∧ yX4_setKey.cls ≠ "java/lang/invoke/MethodHandle" ∧ yX4_setKey.cls ≠ "java/lang/invoke/VarHandle" ∧ (parseMethodDescriptor yX4_setKey.desc).map (fun d => d.parameters.length) = some 2 := by decide +kernel
theorem m0_X4_setKey : Jvm.Cond.constantLong RX4 111 25 ∈ wsX4_setKey := by decide +kernel
theorem m1_X4_setKey : Cond.fieldLink RX4 7 RX4 (TX4 0).2.1 (TX4 0).2.2.1 ∈ wsX4_setKey := by decide +kernel
theorem m2_X4_setKey : ∀ w ∈ u_ws RX4 TX4 12, w ∈ wsX4_setKey := by decide +kernel
set_option maxHeartbeats 4000000 in
set_option maxRecDepth 100000 in
theorem tj_X4_setKey_64 {l : Launch} {D : va_G} {X : zE} {p : Program} {e : Env} {s : State} {m : MethodId} {args : Array Value} {below : List Frame} {meth : Method} {c : Code} (S : zS p m meth c cX4_setKey 3 (some .int) s args wsX4_setKey RX4 D 9 X) {r : Int32} {z1 : zV} : ∀ (z0 : zV) (x1 : Int32) (x2 : Int32), j_X4_setKey_64 z0 x1 x2 = some (r, z1) → Zj true D 9 X p l e (zrm 1 25) s m args below meth c (MQ below (zQw D 9 X (zc shM X z1) (some (.int r))) args s 0 0 (zw_A 9 X.1)) 3 64 [(0, .ref (X.1 0)), (1, .int x1), (2, .int x2)] [] (zc shM X z0) := by
  intro z0 x1 x2 h
  rw [j_X4_setKey_64] at h
  refine z_aload_n S 0 dX4_setKey_64 rfl rfl ?_
  obtain ⟨z_65, hv_65, h⟩ := ob_some h
  refine z_callV_w (As := []) S (c_X4_remember l D X _ S.2.2.1 hv_65) (cwV 0 S.1.2.2.2.2 gX4_setKey_X4_remember rfl rfl rfl hd_X4_remember ⟨Nat.le_of_ble_eq_true rfl, Nat.le_of_ble_eq_true rfl⟩) (Nat.le_of_ble_eq_true rfl) (cM_0 X z0) rfl rfl rfl (Nat.le_of_ble_eq_true rfl) rfl dX4_setKey_65 ?_
  refine z_aload_n S 0 dX4_setKey_68 rfl rfl ?_
  refine z_get S (C := RX4) (T := TX4) (N := 12) (ci := 4) 0 m1_X4_setKey m2_X4_setKey (Nat.le_of_ble_eq_true rfl) (cM_0 X z_65) rfl (Nat.le_of_ble_eq_true rfl) rfl rfl dX4_setKey_69 ?_
  refine z_bipush (v := (nI 49)) S dX4_setKey_72 (by decide) ?_
  refine z_iload_n S 1 dX4_setKey_74 rfl rfl ?_
  refine z_iast S (Nat.le_of_ble_eq_true rfl) (fun _ => rfl) dX4_setKey_75 h (fun z_75 h => ?_)
  refine z_aload_n S 0 dX4_setKey_76 rfl rfl ?_
  refine z_get S (C := RX4) (T := TX4) (N := 12) (ci := 4) 0 m1_X4_setKey m2_X4_setKey (Nat.le_of_ble_eq_true rfl) (cM_0 X z_75) rfl (Nat.le_of_ble_eq_true rfl) rfl rfl dX4_setKey_77 ?_
  refine z_bipush (v := (nI 50)) S dX4_setKey_80 (by decide) ?_
  refine z_iload_n S 2 dX4_setKey_82 rfl rfl ?_
  refine z_iast S (Nat.le_of_ble_eq_true rfl) (fun _ => rfl) dX4_setKey_83 h (fun z_83 h => ?_)
  refine z_aload_n S 0 dX4_setKey_84 rfl rfl ?_
  obtain ⟨z_85, hv_85, h⟩ := ob_some h
  refine z_callV_w (As := []) S (c_X4_forgets l D X _ S.2.2.1 hv_85) (cwV 0 S.1.2.2.2.2 gX4_setKey_X4_forgets rfl rfl rfl hd_X4_forgets ⟨Nat.le_of_ble_eq_true rfl, Nat.le_of_ble_eq_true rfl⟩) (Nat.le_of_ble_eq_true rfl) (cM_0 X z_83) rfl rfl rfl (Nat.le_of_ble_eq_true rfl) rfl dX4_setKey_85 ?_
  refine z_aload_n S 0 dX4_setKey_88 rfl rfl ?_
  refine z_aload_n S 0 dX4_setKey_89 rfl rfl ?_
  refine z_iconst (v := (nI 0)) S dX4_setKey_90 (by decide) ?_
  obtain ⟨v_91, hv_91, h⟩ := ob_some h
  refine z_callV_r (As := [.int (nI 0)]) S (c_X4_numberOf l D X _ _ S.2.2.1 hv_91) (cwV 1 S.1.2.2.2.2 gX4_setKey_X4_numberOf rfl rfl rfl hd_X4_numberOf ⟨Nat.le_of_ble_eq_true rfl, Nat.le_of_ble_eq_true rfl⟩) (Nat.le_of_ble_eq_true rfl) (cM_0 X z_85) rfl rfl rfl (Nat.le_of_ble_eq_true rfl) rfl dX4_setKey_91 ?_
  obtain ⟨v_94, z_94, hv_94, h⟩ := bd2_some h
  refine z_callV_w (As := [.int v_91]) S (c_X4_acted l D X _ _ S.2.2.1 hv_94) (cwV 1 S.1.2.2.2.2 gX4_setKey_X4_acted rfl rfl rfl hd_X4_acted ⟨Nat.le_of_ble_eq_true rfl, Nat.le_of_ble_eq_true rfl⟩) (Nat.le_of_ble_eq_true rfl) (cM_0 X z_85) rfl rfl rfl (Nat.le_of_ble_eq_true rfl) rfl dX4_setKey_94 ?_
  exact z_iret_w S dX4_setKey_97 h
set_option maxHeartbeats 4000000 in
set_option maxRecDepth 100000 in
theorem c_X4_setKey (l : Launch) (D : va_G) (X : zE) (z0 : zV) (a0 : Int32) (a1 : Int32) (hinj : zw_inj 9 X.1) {r : Int32} {z1 : zV} (h : f_X4_setKey z0 a0 a1 = some (r, z1)) : zMw l yX4_setKey wsX4_setKey (zrm 1 25) D 9 X (zc shM X z0) [.ref (X.1 0), .int a0, .int a1] (some (.int r)) (zc shM X z1) := by
  rw [f_X4_setKey] at h
  refine z_start_w (cc := cX4_setKey) (maxL := 3) (ret := (some .int)) (by decide) rfl (Nat.le_of_ble_eq_true rfl) hinj ?_
  intro p e s m below meth c S
  refine z_iload_n S 1 dX4_setKey_0 rfl rfl ?_
  refine z_i2l S dX4_setKey_1 ?_
  refine z_lconst (v := (lN 1)) S dX4_setKey_2 (by decide) ?_
  refine z_ldc2 (v := (lN 25)) S m0_X4_setKey dX4_setKey_3 ?_
  obtain ⟨v_6, hv_6, h⟩ := ob_some h
  refine z_callS_r (As := [.long (Int32.toInt64 a0), .long (lN 1), .long (lN 25)]) S (c_X4_in l D X _ _ _ _ S.2.2.1 hv_6) (va_cwS 3 S.1.2.2.2.2 gX4_setKey_X4_in rfl rfl rfl hd_X4_in ⟨Nat.le_of_ble_eq_true rfl, Nat.le_of_ble_eq_true rfl⟩) rfl rfl (Nat.le_of_ble_eq_true rfl) rfl dX4_setKey_6 ?_
  refine z_if_eq S (tgt := 36) dX4_setKey_9 (by decide) h (fun h => ?_) (fun h => ?_)
  · refine z_bipush (v := (-2)) S dX4_setKey_36 (by decide) ?_
    exact z_iret_w S dX4_setKey_38 h
  · refine z_iload_n S 1 dX4_setKey_12 rfl rfl ?_
    refine z_iconst (v := (nI 2)) S dX4_setKey_13 (by decide) ?_
    refine z_irem S dX4_setKey_14 (by decide) ?_
    refine z_if_eq S (tgt := 36) dX4_setKey_15 (by decide) h (fun h => ?_) (fun h => ?_)
    · refine z_bipush (v := (-2)) S dX4_setKey_36 (by decide) ?_
      exact z_iret_w S dX4_setKey_38 h
    · refine z_iload_n S 1 dX4_setKey_18 rfl rfl ?_
      refine z_bipush (v := (nI 13)) S dX4_setKey_19 (by decide) ?_
      refine z_icmp_eq S (tgt := 36) dX4_setKey_21 (by decide) h (fun h => ?_) (fun h => ?_)
      · refine z_bipush (v := (-2)) S dX4_setKey_36 (by decide) ?_
        exact z_iret_w S dX4_setKey_38 h
      · refine z_iload_n S 2 dX4_setKey_24 rfl rfl ?_
        refine z_i2l S dX4_setKey_25 ?_
        refine z_lconst (v := (lN 0)) S dX4_setKey_26 (by decide) ?_
        refine z_ldc2 (v := (lN 25)) S m0_X4_setKey dX4_setKey_27 ?_
        obtain ⟨v_30, hv_30, h⟩ := ob_some h
        refine z_callS_r (As := [.long (Int32.toInt64 a1), .long (lN 0), .long (lN 25)]) S (c_X4_in l D X _ _ _ _ S.2.2.1 hv_30) (va_cwS 3 S.1.2.2.2.2 gX4_setKey_X4_in rfl rfl rfl hd_X4_in ⟨Nat.le_of_ble_eq_true rfl, Nat.le_of_ble_eq_true rfl⟩) rfl rfl (Nat.le_of_ble_eq_true rfl) rfl dX4_setKey_30 ?_
        refine z_if_ne S (tgt := 39) dX4_setKey_33 (by decide) h (fun h => ?_) (fun h => ?_)
        · refine z_aload_n S 0 dX4_setKey_39 rfl rfl ?_
          refine z_get S (C := RX4) (T := TX4) (N := 12) (ci := 4) 0 m1_X4_setKey m2_X4_setKey (Nat.le_of_ble_eq_true rfl) (cM_0 X z0) rfl (Nat.le_of_ble_eq_true rfl) rfl rfl dX4_setKey_40 ?_
          refine z_bipush (v := (nI 49)) S dX4_setKey_43 (by decide) ?_
          refine z_iald S (Nat.le_of_ble_eq_true rfl) (cM_1 X z0) dX4_setKey_45 h (fun v_45 h => ?_)
          refine z_iload_n S 1 dX4_setKey_46 rfl rfl ?_
          refine z_icmp_ne S (tgt := 64) dX4_setKey_47 (by decide) h (fun h => ?_) (fun h => ?_)
          · exact z_lv [0, 1, 2] rfl (tj_X4_setKey_64 S _ _ _ h)
          · refine z_aload_n S 0 dX4_setKey_50 rfl rfl ?_
            refine z_get S (C := RX4) (T := TX4) (N := 12) (ci := 4) 0 m1_X4_setKey m2_X4_setKey (Nat.le_of_ble_eq_true rfl) (cM_0 X z0) rfl (Nat.le_of_ble_eq_true rfl) rfl rfl dX4_setKey_51 ?_
            refine z_bipush (v := (nI 50)) S dX4_setKey_54 (by decide) ?_
            refine z_iald S (Nat.le_of_ble_eq_true rfl) (cM_1 X z0) dX4_setKey_56 h (fun v_56 h => ?_)
            refine z_iload_n S 2 dX4_setKey_57 rfl rfl ?_
            refine z_icmp_ne S (tgt := 64) dX4_setKey_58 (by decide) h (fun h => ?_) (fun h => ?_)
            · exact z_lv [0, 1, 2] rfl (tj_X4_setKey_64 S _ _ _ h)
            · refine z_bipush (v := (-5)) S dX4_setKey_61 (by decide) ?_
              exact z_iret_w S dX4_setKey_63 h
        · refine z_bipush (v := (-2)) S dX4_setKey_36 (by decide) ?_
          exact z_iret_w S dX4_setKey_38 h
/-! SoldLettersModel.isOnList: a walk -/
theorem hd_X4_isOnList : yX4_isOnList.cls = RX4 ∧ yX4_isOnList.cls ≠ "java/lang/invoke/MethodHandle" ∧ yX4_isOnList.cls ≠ "java/lang/invoke/VarHandle" ∧ (parseMethodDescriptor yX4_isOnList.desc).map (fun d => d.parameters.length) = some 2 := by decide +kernel
theorem m0_X4_isOnList : Cond.fieldLink RX4 7 RX4 (TX4 0).2.1 (TX4 0).2.2.1 ∈ wsX4_isOnList := by decide +kernel
theorem m1_X4_isOnList : ∀ w ∈ u_ws RX4 TX4 12, w ∈ wsX4_isOnList := by decide +kernel
theorem m2_X4_isOnList : Cond.fieldLink RX4 31 RX4 (TX4 10).2.1 (TX4 10).2.2.1 ∈ wsX4_isOnList := by decide +kernel
set_option maxHeartbeats 4000000 in
set_option maxRecDepth 100000 in
theorem tj_X4_isOnList_84 {l : Launch} {D : va_G} {X : zE} {p : Program} {e : Env} {s : State} {m : MethodId} {args : Array Value} {below : List Frame} {meth : Method} {c : Code} (S : zS p m meth c cX4_isOnList 7 (some .boolean) s args wsX4_isOnList RX4 D 9 X) {z0 : zV} {r : Int32} {k_5 : Int32 → Int32 → Int32 → Int32 → Option (Int32)} (hk_5 : ∀ (x1 : Int32) (x2 : Int32) (x3 : Int32) (x4 : Int32), k_5 x1 x2 x3 x4 = some r → Zj false D 9 X p l e (zrm 1 22) s m args below meth c (MQ below (zQr (some (.int r))) args s 0 0 (fun _ => False)) 7 5 [(0, .ref (X.1 0)), (1, .int x1), (2, .int x2), (3, .int x3), (4, .int x4)] [] (zc shM X z0)) : ∀ (x1 : Int32) (x2 : Int32) (x3 : Int32) (x4 : Int32) (x5 : Int32), j_X4_isOnList_84 z0 k_5 x1 x2 x3 x4 x5 = some r → Zj false D 9 X p l e (zrm 1 22) s m args below meth c (MQ below (zQr (some (.int r))) args s 0 0 (fun _ => False)) 7 84 [(0, .ref (X.1 0)), (1, .int x1), (2, .int x2), (3, .int x3), (4, .int x4), (5, .int x5)] [] (zc shM X z0) := by
  intro x1 x2 x3 x4 x5 h
  rw [j_X4_isOnList_84] at h
  refine z_iload_n S 3 dX4_isOnList_84 rfl rfl ?_
  refine z_if_ne S (tgt := 93) dX4_isOnList_85 (by decide) h (fun h => ?_) (fun h => ?_)
  · refine z_iconst (v := (nI 1)) S dX4_isOnList_93 (by decide) ?_
    refine z_goto S (tgt := 98) dX4_isOnList_94 (by decide) ?_
    refine z_istore_n S [(3, .int (nI 1)), (0, .ref (X.1 0)), (1, .int x1), (2, .int x2), (4, .int x4), (5, .int x5)] dX4_isOnList_98 rfl (Nat.le_of_ble_eq_true rfl) rfl ?_
    refine z_iinc S 4 [(4, .int (x4 + nI 1)), (3, .int (nI 1)), (0, .ref (X.1 0)), (1, .int x1), (2, .int x2), (5, .int x5)] dX4_isOnList_99 rfl rfl (Nat.le_of_ble_eq_true rfl) rfl ?_
    refine z_goto S (tgt := 5) dX4_isOnList_102 (by decide) ?_
    exact z_lv [2, 3, 4, 1, 0] rfl (hk_5 _ _ _ _ h)
  · refine z_iload S 5 dX4_isOnList_88 rfl ?_
    refine z_if_eq S (tgt := 97) dX4_isOnList_90 (by decide) h (fun h => ?_) (fun h => ?_)
    · refine z_iconst (v := (nI 0)) S dX4_isOnList_97 (by decide) ?_
      refine z_istore_n S [(3, .int (nI 0)), (0, .ref (X.1 0)), (1, .int x1), (2, .int x2), (4, .int x4), (5, .int x5)] dX4_isOnList_98 rfl (Nat.le_of_ble_eq_true rfl) rfl ?_
      refine z_iinc S 4 [(4, .int (x4 + nI 1)), (3, .int (nI 0)), (0, .ref (X.1 0)), (1, .int x1), (2, .int x2), (5, .int x5)] dX4_isOnList_99 rfl rfl (Nat.le_of_ble_eq_true rfl) rfl ?_
      refine z_goto S (tgt := 5) dX4_isOnList_102 (by decide) ?_
      exact z_lv [2, 3, 4, 1, 0] rfl (hk_5 _ _ _ _ h)
    · refine z_iconst (v := (nI 1)) S dX4_isOnList_93 (by decide) ?_
      refine z_goto S (tgt := 98) dX4_isOnList_94 (by decide) ?_
      refine z_istore_n S [(3, .int (nI 1)), (0, .ref (X.1 0)), (1, .int x1), (2, .int x2), (4, .int x4), (5, .int x5)] dX4_isOnList_98 rfl (Nat.le_of_ble_eq_true rfl) rfl ?_
      refine z_iinc S 4 [(4, .int (x4 + nI 1)), (3, .int (nI 1)), (0, .ref (X.1 0)), (1, .int x1), (2, .int x2), (5, .int x5)] dX4_isOnList_99 rfl rfl (Nat.le_of_ble_eq_true rfl) rfl ?_
      refine z_goto S (tgt := 5) dX4_isOnList_102 (by decide) ?_
      exact z_lv [2, 3, 4, 1, 0] rfl (hk_5 _ _ _ _ h)
set_option maxHeartbeats 4000000 in
set_option maxRecDepth 100000 in
theorem tl_X4_isOnList_37 {l : Launch} {D : va_G} {X : zE} {p : Program} {e : Env} {s : State} {m : MethodId} {args : Array Value} {below : List Frame} {meth : Method} {c : Code} (S : zS p m meth c cX4_isOnList 7 (some .boolean) s args wsX4_isOnList RX4 D 9 X) {z0 : zV} {r : Int32} {k_5 : Int32 → Int32 → Int32 → Int32 → Option (Int32)} (hk_5 : ∀ (x1 : Int32) (x2 : Int32) (x3 : Int32) (x4 : Int32), k_5 x1 x2 x3 x4 = some r → Zj false D 9 X p l e (zrm 1 22) s m args below meth c (MQ below (zQr (some (.int r))) args s 0 0 (fun _ => False)) 7 5 [(0, .ref (X.1 0)), (1, .int x1), (2, .int x2), (3, .int x3), (4, .int x4)] [] (zc shM X z0)) : ∀ (n_ : Nat), ∀ (x1 : Int32) (x2 : Int32) (x3 : Int32) (x4 : Int32) (x5 : Int32) (x6 : Int32), l_X4_isOnList_37 z0 k_5 n_ x1 x2 x3 x4 x5 x6 = some r → Zj false D 9 X p l e (zrm 1 22) s m args below meth c (MQ below (zQr (some (.int r))) args s 0 0 (fun _ => False)) 7 37 [(0, .ref (X.1 0)), (1, .int x1), (2, .int x2), (3, .int x3), (4, .int x4), (5, .int x5), (6, .int x6)] [] (zc shM X z0) := by
  intro n_
  induction n_ with
  | zero =>
    intro x1 x2 x3 x4 x5 x6 h
    cases h
  | succ n_ ih =>
    intro x1 x2 x3 x4 x5 x6 h
    rw [l_X4_isOnList_37] at h
    refine z_iload S 6 dX4_isOnList_37 rfl ?_
    refine z_iload_n S 2 dX4_isOnList_39 rfl rfl ?_
    refine z_icmp_ge S (tgt := 84) dX4_isOnList_40 (by decide) h (fun h => ?_) (fun h => ?_)
    · exact z_lv [0, 1, 2, 3, 4, 5] rfl (tj_X4_isOnList_84 S hk_5 _ _ _ _ _ h)
    · refine z_iload S 5 dX4_isOnList_43 rfl ?_
      refine z_if_eq S (tgt := 84) dX4_isOnList_45 (by decide) h (fun h => ?_) (fun h => ?_)
      · exact z_lv [0, 1, 2, 3, 4, 5] rfl (tj_X4_isOnList_84 S hk_5 _ _ _ _ _ h)
      · refine z_aload_n S 0 dX4_isOnList_48 rfl rfl ?_
        refine z_iload S 4 dX4_isOnList_49 rfl ?_
        refine z_iload S 6 dX4_isOnList_51 rfl ?_
        obtain ⟨v_53, hv_53, h⟩ := ob_some h
        refine z_callV_r (As := [.int x4, .int x6]) S (c_X4_letterOfListed l D X _ _ _ S.2.2.1 hv_53) (cwV 2 S.1.2.2.2.2 gX4_isOnList_X4_letterOfListed rfl rfl rfl hd_X4_letterOfListed ⟨Nat.le_of_ble_eq_true rfl, Nat.le_of_ble_eq_true rfl⟩) (Nat.le_of_ble_eq_true rfl) (cM_0 X z0) rfl rfl rfl (Nat.le_of_ble_eq_true rfl) rfl dX4_isOnList_53 ?_
        refine z_aload_n S 0 dX4_isOnList_56 rfl rfl ?_
        refine z_get S (C := RX4) (T := TX4) (N := 12) (ci := 4) 10 m2_X4_isOnList m1_X4_isOnList (Nat.le_of_ble_eq_true rfl) (cM_0 X z0) rfl (Nat.le_of_ble_eq_true rfl) rfl rfl dX4_isOnList_57 ?_
        refine z_iload_n S 1 dX4_isOnList_60 rfl rfl ?_
        refine z_iload S 6 dX4_isOnList_61 rfl ?_
        refine z_iadd S dX4_isOnList_63 ?_
        refine z_iald S (Nat.le_of_ble_eq_true rfl) (cM_8 X z0) dX4_isOnList_64 h (fun v_64 h => ?_)
        refine z_bipush (v := (nI 97)) S dX4_isOnList_65 (by decide) ?_
        refine z_isub S dX4_isOnList_67 ?_
        refine z_icmp_ne S (tgt := 75) dX4_isOnList_68 (by decide) h (fun h => ?_) (fun h => ?_)
        · refine z_iconst (v := (nI 0)) S dX4_isOnList_75 (by decide) ?_
          refine z_istore S [(5, .int (nI 0)), (0, .ref (X.1 0)), (1, .int x1), (2, .int x2), (3, .int x3), (4, .int x4), (6, .int x6)] dX4_isOnList_76 (Nat.le_of_ble_eq_true rfl) rfl ?_
          refine z_iinc S 6 [(6, .int (x6 + nI 1)), (5, .int (nI 0)), (0, .ref (X.1 0)), (1, .int x1), (2, .int x2), (3, .int x3), (4, .int x4)] dX4_isOnList_78 rfl rfl (Nat.le_of_ble_eq_true rfl) rfl ?_
          refine z_goto S (tgt := 37) dX4_isOnList_81 (by decide) ?_
          exact z_lv [2, 3, 4, 5, 6, 1, 0] rfl (ih _ _ _ _ _ _ h)
        · refine z_iconst (v := (nI 1)) S dX4_isOnList_71 (by decide) ?_
          refine z_goto S (tgt := 76) dX4_isOnList_72 (by decide) ?_
          refine z_istore S [(5, .int (nI 1)), (0, .ref (X.1 0)), (1, .int x1), (2, .int x2), (3, .int x3), (4, .int x4), (6, .int x6)] dX4_isOnList_76 (Nat.le_of_ble_eq_true rfl) rfl ?_
          refine z_iinc S 6 [(6, .int (x6 + nI 1)), (5, .int (nI 1)), (0, .ref (X.1 0)), (1, .int x1), (2, .int x2), (3, .int x3), (4, .int x4)] dX4_isOnList_78 rfl rfl (Nat.le_of_ble_eq_true rfl) rfl ?_
          refine z_goto S (tgt := 37) dX4_isOnList_81 (by decide) ?_
          exact z_lv [2, 3, 4, 5, 6, 1, 0] rfl (ih _ _ _ _ _ _ h)
set_option maxHeartbeats 4000000 in
set_option maxRecDepth 100000 in
theorem tl_X4_isOnList_5 {l : Launch} {D : va_G} {X : zE} {p : Program} {e : Env} {s : State} {m : MethodId} {args : Array Value} {below : List Frame} {meth : Method} {c : Code} (S : zS p m meth c cX4_isOnList 7 (some .boolean) s args wsX4_isOnList RX4 D 9 X) {z0 : zV} {r : Int32} : ∀ (n_ : Nat), ∀ (x1 : Int32) (x2 : Int32) (x3 : Int32) (x4 : Int32), l_X4_isOnList_5 z0 n_ x1 x2 x3 x4 = some r → Zj false D 9 X p l e (zrm 1 22) s m args below meth c (MQ below (zQr (some (.int r))) args s 0 0 (fun _ => False)) 7 5 [(0, .ref (X.1 0)), (1, .int x1), (2, .int x2), (3, .int x3), (4, .int x4)] [] (zc shM X z0) := by
  intro n_
  induction n_ with
  | zero =>
    intro x1 x2 x3 x4 h
    cases h
  | succ n_ ih =>
    intro x1 x2 x3 x4 h
    rw [l_X4_isOnList_5] at h
    refine z_iload S 4 dX4_isOnList_5 rfl ?_
    refine z_aload_n S 0 dX4_isOnList_7 rfl rfl ?_
    refine z_get S (C := RX4) (T := TX4) (N := 12) (ci := 4) 0 m0_X4_isOnList m1_X4_isOnList (Nat.le_of_ble_eq_true rfl) (cM_0 X z0) rfl (Nat.le_of_ble_eq_true rfl) rfl rfl dX4_isOnList_8 ?_
    refine z_bipush (v := (nI 106)) S dX4_isOnList_11 (by decide) ?_
    refine z_iald S (Nat.le_of_ble_eq_true rfl) (cM_1 X z0) dX4_isOnList_13 h (fun v_13 h => ?_)
    refine z_icmp_ge S (tgt := 105) dX4_isOnList_14 (by decide) h (fun h => ?_) (fun h => ?_)
    · refine z_iload_n S 3 dX4_isOnList_105 rfl rfl ?_
      exact z_zret_r S dX4_isOnList_106 h
    · refine z_aload_n S 0 dX4_isOnList_17 rfl rfl ?_
      refine z_iload S 4 dX4_isOnList_18 rfl ?_
      obtain ⟨v_20, hv_20, h⟩ := ob_some h
      refine z_callV_r (As := [.int x4]) S (c_X4_sizeOf l D X _ _ S.2.2.1 hv_20) (cwV 1 S.1.2.2.2.2 gX4_isOnList_X4_sizeOf rfl rfl rfl hd_X4_sizeOf ⟨Nat.le_of_ble_eq_true rfl, Nat.le_of_ble_eq_true rfl⟩) (Nat.le_of_ble_eq_true rfl) (cM_0 X z0) rfl rfl rfl (Nat.le_of_ble_eq_true rfl) rfl dX4_isOnList_20 ?_
      refine z_iload_n S 2 dX4_isOnList_23 rfl rfl ?_
      refine z_icmp_ne S (tgt := 31) dX4_isOnList_24 (by decide) h (fun h => ?_) (fun h => ?_)
      · refine z_iconst (v := (nI 0)) S dX4_isOnList_31 (by decide) ?_
        refine z_istore S [(5, .int (nI 0)), (0, .ref (X.1 0)), (1, .int x1), (2, .int x2), (3, .int x3), (4, .int x4)] dX4_isOnList_32 (Nat.le_of_ble_eq_true rfl) rfl ?_
        refine z_iconst (v := (nI 0)) S dX4_isOnList_34 (by decide) ?_
        refine z_istore S [(6, .int (nI 0)), (5, .int (nI 0)), (0, .ref (X.1 0)), (1, .int x1), (2, .int x2), (3, .int x3), (4, .int x4)] dX4_isOnList_35 (Nat.le_of_ble_eq_true rfl) rfl ?_
        exact z_lv [2, 3, 4, 5, 6, 1, 0] rfl (tl_X4_isOnList_37 S ih _ _ _ _ _ _ _ h)
      · refine z_iconst (v := (nI 1)) S dX4_isOnList_27 (by decide) ?_
        refine z_goto S (tgt := 32) dX4_isOnList_28 (by decide) ?_
        refine z_istore S [(5, .int (nI 1)), (0, .ref (X.1 0)), (1, .int x1), (2, .int x2), (3, .int x3), (4, .int x4)] dX4_isOnList_32 (Nat.le_of_ble_eq_true rfl) rfl ?_
        refine z_iconst (v := (nI 0)) S dX4_isOnList_34 (by decide) ?_
        refine z_istore S [(6, .int (nI 0)), (5, .int (nI 1)), (0, .ref (X.1 0)), (1, .int x1), (2, .int x2), (3, .int x3), (4, .int x4)] dX4_isOnList_35 (Nat.le_of_ble_eq_true rfl) rfl ?_
        exact z_lv [2, 3, 4, 5, 6, 1, 0] rfl (tl_X4_isOnList_37 S ih _ _ _ _ _ _ _ h)
set_option maxHeartbeats 4000000 in
set_option maxRecDepth 100000 in
theorem c_X4_isOnList (l : Launch) (D : va_G) (X : zE) (z0 : zV) (a0 : Int32) (a1 : Int32) (hinj : zw_inj 9 X.1) {r : Int32} (h : f_X4_isOnList z0 a0 a1 = some r) : zMr l yX4_isOnList wsX4_isOnList (zrm 1 22) D 9 X (zc shM X z0) [.ref (X.1 0), .int a0, .int a1] (some (.int r)) := by
  rw [f_X4_isOnList] at h
  refine z_start_r (cc := cX4_isOnList) (maxL := 7) (ret := (some .boolean)) (by decide) rfl (Nat.le_of_ble_eq_true rfl) hinj ?_
  intro p e s m below meth c S
  refine z_iconst (v := (nI 0)) S dX4_isOnList_0 (by decide) ?_
  refine z_istore_n S [(3, .int (nI 0)), (0, .ref (X.1 0)), (1, .int a0), (2, .int a1)] dX4_isOnList_1 rfl (Nat.le_of_ble_eq_true rfl) rfl ?_
  refine z_iconst (v := (nI 0)) S dX4_isOnList_2 (by decide) ?_
  refine z_istore S [(4, .int (nI 0)), (3, .int (nI 0)), (0, .ref (X.1 0)), (1, .int a0), (2, .int a1)] dX4_isOnList_3 (Nat.le_of_ble_eq_true rfl) rfl ?_
  exact z_lv [2, 3, 4, 1, 0] rfl (tl_X4_isOnList_5 S _ _ _ _ _ h)
/-! SoldLettersModel.addsAll: a walk -/
theorem hd_X4_addsAll : yX4_addsAll.cls = RX4 ∧ yX4_addsAll.cls ≠ "java/lang/invoke/MethodHandle" ∧ yX4_addsAll.cls ≠ "java/lang/invoke/VarHandle" ∧ (parseMethodDescriptor yX4_addsAll.desc).map (fun d => d.parameters.length) = some 0 := by decide +kernel
theorem m0_X4_addsAll : Cond.fieldLink RX4 88 RX4 (TX4 11).2.1 (TX4 11).2.2.1 ∈ wsX4_addsAll := by decide +kernel
theorem m1_X4_addsAll : ∀ w ∈ u_ws RX4 TX4 12, w ∈ wsX4_addsAll := by decide +kernel
theorem m2_X4_addsAll : Cond.fieldLink RX4 7 RX4 (TX4 0).2.1 (TX4 0).2.2.1 ∈ wsX4_addsAll := by decide +kernel
theorem m3_X4_addsAll : Cond.fieldLink RX4 31 RX4 (TX4 10).2.1 (TX4 10).2.2.1 ∈ wsX4_addsAll := by decide +kernel
set_option maxHeartbeats 4000000 in
set_option maxRecDepth 100000 in
theorem tl_X4_addsAll_88 {l : Launch} {D : va_G} {X : zE} {p : Program} {e : Env} {s : State} {m : MethodId} {args : Array Value} {below : List Frame} {meth : Method} {c : Code} (S : zS p m meth c cX4_addsAll 5 (some .boolean) s args wsX4_addsAll RX4 D 9 X) {r : Int32} {z1 : zV} {k_2 : zV → Int32 → Option (Int32 × zV)} (hk_2 : ∀ (z0 : zV) (x1 : Int32), k_2 z0 x1 = some (r, z1) → Zj true D 9 X p l e (zrm 2 48) s m args below meth c (MQ below (zQw D 9 X (zc shM X z1) (some (.int r))) args s 0 0 (zw_A 9 X.1)) 5 2 [(0, .ref (X.1 0)), (1, .int x1)] [] (zc shM X z0)) : ∀ (n_ : Nat), ∀ (z0 : zV) (x1 : Int32) (x2 : Int32) (x3 : Int32) (x4 : Int32), l_X4_addsAll_88 k_2 n_ z0 x1 x2 x3 x4 = some (r, z1) → Zj true D 9 X p l e (zrm 2 48) s m args below meth c (MQ below (zQw D 9 X (zc shM X z1) (some (.int r))) args s 0 0 (zw_A 9 X.1)) 5 88 [(0, .ref (X.1 0)), (1, .int x1), (2, .int x2), (3, .int x3), (4, .int x4)] [] (zc shM X z0) := by
  intro n_
  induction n_ with
  | zero =>
    intro z0 x1 x2 x3 x4 h
    cases h
  | succ n_ ih =>
    intro z0 x1 x2 x3 x4 h
    rw [l_X4_addsAll_88] at h
    refine z_iload S 4 dX4_addsAll_88 rfl ?_
    refine z_iload_n S 2 dX4_addsAll_90 rfl rfl ?_
    refine z_icmp_ge S (tgt := 123) dX4_addsAll_91 (by decide) h (fun h => ?_) (fun h => ?_)
    · refine z_aload_n S 0 dX4_addsAll_123 rfl rfl ?_
      refine z_get S (C := RX4) (T := TX4) (N := 12) (ci := 4) 0 m2_X4_addsAll m1_X4_addsAll (Nat.le_of_ble_eq_true rfl) (cM_0 X z0) rfl (Nat.le_of_ble_eq_true rfl) rfl rfl dX4_addsAll_124 ?_
      refine z_bipush (v := (nI 106)) S dX4_addsAll_127 (by decide) ?_
      refine z_dup2 S dX4_addsAll_129 rfl rfl ?_
      refine z_iald S (Nat.le_of_ble_eq_true rfl) (cM_1 X z0) dX4_addsAll_130 h (fun v_130 h => ?_)
      refine z_iconst (v := (nI 1)) S dX4_addsAll_131 (by decide) ?_
      refine z_iadd S dX4_addsAll_132 ?_
      refine z_iast S (Nat.le_of_ble_eq_true rfl) (fun _ => rfl) dX4_addsAll_133 h (fun z_133 h => ?_)
      refine z_iload_n S 1 dX4_addsAll_134 rfl rfl ?_
      refine z_iload_n S 2 dX4_addsAll_135 rfl rfl ?_
      refine z_iconst (v := (nI 1)) S dX4_addsAll_136 (by decide) ?_
      refine z_iadd S dX4_addsAll_137 ?_
      refine z_iadd S dX4_addsAll_138 ?_
      refine z_istore_n S [(1, .int (x1 + (x2 + (nI 1)))), (0, .ref (X.1 0)), (2, .int x2), (3, .int x3), (4, .int x4)] dX4_addsAll_139 rfl (Nat.le_of_ble_eq_true rfl) rfl ?_
      refine z_goto S (tgt := 2) dX4_addsAll_140 (by decide) ?_
      exact z_lv [1, 0] rfl (hk_2 _ _ h)
    · refine z_aload_n S 0 dX4_addsAll_94 rfl rfl ?_
      refine z_get S (C := RX4) (T := TX4) (N := 12) (ci := 4) 0 m2_X4_addsAll m1_X4_addsAll (Nat.le_of_ble_eq_true rfl) (cM_0 X z0) rfl (Nat.le_of_ble_eq_true rfl) rfl rfl dX4_addsAll_95 ?_
      refine z_iload_n S 3 dX4_addsAll_98 rfl rfl ?_
      refine z_iconst (v := (nI 1)) S dX4_addsAll_99 (by decide) ?_
      refine z_iadd S dX4_addsAll_100 ?_
      refine z_iload S 4 dX4_addsAll_101 rfl ?_
      refine z_iadd S dX4_addsAll_103 ?_
      refine z_aload_n S 0 dX4_addsAll_104 rfl rfl ?_
      refine z_get S (C := RX4) (T := TX4) (N := 12) (ci := 4) 10 m3_X4_addsAll m1_X4_addsAll (Nat.le_of_ble_eq_true rfl) (cM_0 X z0) rfl (Nat.le_of_ble_eq_true rfl) rfl rfl dX4_addsAll_105 ?_
      refine z_iload_n S 1 dX4_addsAll_108 rfl rfl ?_
      refine z_iload S 4 dX4_addsAll_109 rfl ?_
      refine z_iadd S dX4_addsAll_111 ?_
      refine z_iald S (Nat.le_of_ble_eq_true rfl) (cM_8 X z0) dX4_addsAll_112 h (fun v_112 h => ?_)
      refine z_bipush (v := (nI 97)) S dX4_addsAll_113 (by decide) ?_
      refine z_isub S dX4_addsAll_115 ?_
      refine z_iast S (Nat.le_of_ble_eq_true rfl) (fun _ => rfl) dX4_addsAll_116 h (fun z_116 h => ?_)
      refine z_iinc S 4 [(4, .int (x4 + nI 1)), (0, .ref (X.1 0)), (1, .int x1), (2, .int x2), (3, .int x3)] dX4_addsAll_117 rfl rfl (Nat.le_of_ble_eq_true rfl) rfl ?_
      refine z_goto S (tgt := 88) dX4_addsAll_120 (by decide) ?_
      exact z_lv [1, 2, 3, 4, 0] rfl (ih _ _ _ _ _ h)
set_option maxHeartbeats 4000000 in
set_option maxRecDepth 100000 in
theorem tj_X4_addsAll_41 {l : Launch} {D : va_G} {X : zE} {p : Program} {e : Env} {s : State} {m : MethodId} {args : Array Value} {below : List Frame} {meth : Method} {c : Code} (S : zS p m meth c cX4_addsAll 5 (some .boolean) s args wsX4_addsAll RX4 D 9 X) {r : Int32} {z1 : zV} {k_2 : zV → Int32 → Option (Int32 × zV)} (hk_2 : ∀ (z0 : zV) (x1 : Int32), k_2 z0 x1 = some (r, z1) → Zj true D 9 X p l e (zrm 2 48) s m args below meth c (MQ below (zQw D 9 X (zc shM X z1) (some (.int r))) args s 0 0 (zw_A 9 X.1)) 5 2 [(0, .ref (X.1 0)), (1, .int x1)] [] (zc shM X z0)) : ∀ (z0 : zV) (x1 : Int32) (x2 : Int32), j_X4_addsAll_41 k_2 z0 x1 x2 = some (r, z1) → Zj true D 9 X p l e (zrm 2 48) s m args below meth c (MQ below (zQw D 9 X (zc shM X z1) (some (.int r))) args s 0 0 (zw_A 9 X.1)) 5 41 [(0, .ref (X.1 0)), (1, .int x1), (2, .int x2)] [] (zc shM X z0) := by
  intro z0 x1 x2 h
  rw [j_X4_addsAll_41] at h
  refine z_aload_n S 0 dX4_addsAll_41 rfl rfl ?_
  refine z_iload_n S 1 dX4_addsAll_42 rfl rfl ?_
  refine z_iload_n S 2 dX4_addsAll_43 rfl rfl ?_
  obtain ⟨v_44, hv_44, h⟩ := ob_some h
  refine z_callV_r (As := [.int x1, .int x2]) S (c_X4_isOnList l D X _ _ _ S.2.2.1 hv_44) (cwV 2 S.1.2.2.2.2 gX4_addsAll_X4_isOnList rfl rfl rfl hd_X4_isOnList ⟨Nat.le_of_ble_eq_true rfl, Nat.le_of_ble_eq_true rfl⟩) (Nat.le_of_ble_eq_true rfl) (cM_0 X z0) rfl rfl rfl (Nat.le_of_ble_eq_true rfl) rfl dX4_addsAll_44 ?_
  refine z_if_ne S (tgt := 134) dX4_addsAll_47 (by decide) h (fun h => ?_) (fun h => ?_)
  · refine z_iload_n S 1 dX4_addsAll_134 rfl rfl ?_
    refine z_iload_n S 2 dX4_addsAll_135 rfl rfl ?_
    refine z_iconst (v := (nI 1)) S dX4_addsAll_136 (by decide) ?_
    refine z_iadd S dX4_addsAll_137 ?_
    refine z_iadd S dX4_addsAll_138 ?_
    refine z_istore_n S [(1, .int (x1 + (x2 + (nI 1)))), (0, .ref (X.1 0)), (2, .int x2)] dX4_addsAll_139 rfl (Nat.le_of_ble_eq_true rfl) rfl ?_
    refine z_goto S (tgt := 2) dX4_addsAll_140 (by decide) ?_
    exact z_lv [1, 0] rfl (hk_2 _ _ h)
  · refine z_aload_n S 0 dX4_addsAll_50 rfl rfl ?_
    refine z_get S (C := RX4) (T := TX4) (N := 12) (ci := 4) 0 m2_X4_addsAll m1_X4_addsAll (Nat.le_of_ble_eq_true rfl) (cM_0 X z0) rfl (Nat.le_of_ble_eq_true rfl) rfl rfl dX4_addsAll_51 ?_
    refine z_bipush (v := (nI 106)) S dX4_addsAll_54 (by decide) ?_
    refine z_iald S (Nat.le_of_ble_eq_true rfl) (cM_1 X z0) dX4_addsAll_56 h (fun v_56 h => ?_)
    refine z_bipush (v := (nI 12)) S dX4_addsAll_57 (by decide) ?_
    refine z_icmp_ne S (tgt := 64) dX4_addsAll_59 (by decide) h (fun h => ?_) (fun h => ?_)
    · refine z_bipush (v := (nI 109)) S dX4_addsAll_64 (by decide) ?_
      refine z_bipush (v := (nI 8)) S dX4_addsAll_66 (by decide) ?_
      refine z_aload_n S 0 dX4_addsAll_68 rfl rfl ?_
      refine z_get S (C := RX4) (T := TX4) (N := 12) (ci := 4) 0 m2_X4_addsAll m1_X4_addsAll (Nat.le_of_ble_eq_true rfl) (cM_0 X z0) rfl (Nat.le_of_ble_eq_true rfl) rfl rfl dX4_addsAll_69 ?_
      refine z_bipush (v := (nI 106)) S dX4_addsAll_72 (by decide) ?_
      refine z_iald S (Nat.le_of_ble_eq_true rfl) (cM_1 X z0) dX4_addsAll_74 h (fun v_74 h => ?_)
      refine z_imul S dX4_addsAll_75 ?_
      refine z_iadd S dX4_addsAll_76 ?_
      refine z_istore_n S [(3, .int ((nI 109) + ((nI 8) * v_74))), (0, .ref (X.1 0)), (1, .int x1), (2, .int x2)] dX4_addsAll_77 rfl (Nat.le_of_ble_eq_true rfl) rfl ?_
      refine z_aload_n S 1 dX4_addsAll_78 rfl rfl ?_
      refine z_get S (C := RX4) (T := TX4) (N := 12) (ci := 4) 0 m2_X4_addsAll m1_X4_addsAll (Nat.le_of_ble_eq_true rfl) (cM_0 X z0) rfl (Nat.le_of_ble_eq_true rfl) rfl rfl dX4_addsAll_79 ?_
      refine z_iload_n S 0 dX4_addsAll_82 rfl rfl ?_
      refine z_iload_n S 3 dX4_addsAll_83 rfl rfl ?_
      refine z_iast S (Nat.le_of_ble_eq_true rfl) (fun _ => rfl) dX4_addsAll_84 h (fun z_84 h => ?_)
      refine z_iconst (v := (nI 0)) S dX4_addsAll_85 (by decide) ?_
      refine z_istore S [(4, .int (nI 0)), (3, .int ((nI 109) + ((nI 8) * v_74))), (0, .ref (X.1 0)), (1, .int x1), (2, .int x2)] dX4_addsAll_86 (Nat.le_of_ble_eq_true rfl) rfl ?_
      exact z_lv [2, 3, 4, 1, 0] rfl (tl_X4_addsAll_88 S hk_2 _ _ _ _ _ _ h)
    · refine z_iconst (v := (nI 0)) S dX4_addsAll_62 (by decide) ?_
      exact z_zret_w S dX4_addsAll_63 h
set_option maxHeartbeats 4000000 in
set_option maxRecDepth 100000 in
theorem tl_X4_addsAll_12 {l : Launch} {D : va_G} {X : zE} {p : Program} {e : Env} {s : State} {m : MethodId} {args : Array Value} {below : List Frame} {meth : Method} {c : Code} (S : zS p m meth c cX4_addsAll 5 (some .boolean) s args wsX4_addsAll RX4 D 9 X) {r : Int32} {z1 : zV} {k_2 : zV → Int32 → Option (Int32 × zV)} (hk_2 : ∀ (z0 : zV) (x1 : Int32), k_2 z0 x1 = some (r, z1) → Zj true D 9 X p l e (zrm 2 48) s m args below meth c (MQ below (zQw D 9 X (zc shM X z1) (some (.int r))) args s 0 0 (zw_A 9 X.1)) 5 2 [(0, .ref (X.1 0)), (1, .int x1)] [] (zc shM X z0)) : ∀ (n_ : Nat), ∀ (z0 : zV) (x1 : Int32) (x2 : Int32), l_X4_addsAll_12 k_2 n_ z0 x1 x2 = some (r, z1) → Zj true D 9 X p l e (zrm 2 48) s m args below meth c (MQ below (zQw D 9 X (zc shM X z1) (some (.int r))) args s 0 0 (zw_A 9 X.1)) 5 12 [(0, .ref (X.1 0)), (1, .int x1), (2, .int x2)] [] (zc shM X z0) := by
  intro n_
  induction n_ with
  | zero =>
    intro z0 x1 x2 h
    cases h
  | succ n_ ih =>
    intro z0 x1 x2 h
    rw [l_X4_addsAll_12] at h
    refine z_iload_n S 1 dX4_addsAll_12 rfl rfl ?_
    refine z_iload_n S 2 dX4_addsAll_13 rfl rfl ?_
    refine z_iadd S dX4_addsAll_14 ?_
    refine z_aload_n S 0 dX4_addsAll_15 rfl rfl ?_
    refine z_get S (C := RX4) (T := TX4) (N := 12) (ci := 4) 11 m0_X4_addsAll m1_X4_addsAll (Nat.le_of_ble_eq_true rfl) (cM_0 X z0) rfl (Nat.le_of_ble_eq_true rfl) rfl rfl dX4_addsAll_16 ?_
    refine z_icmp_ge S (tgt := 41) dX4_addsAll_19 (by decide) h (fun h => ?_) (fun h => ?_)
    · exact z_lv [0, 1, 2] rfl (tj_X4_addsAll_41 S hk_2 _ _ _ h)
    · refine z_aload_n S 0 dX4_addsAll_22 rfl rfl ?_
      refine z_get S (C := RX4) (T := TX4) (N := 12) (ci := 4) 10 m3_X4_addsAll m1_X4_addsAll (Nat.le_of_ble_eq_true rfl) (cM_0 X z0) rfl (Nat.le_of_ble_eq_true rfl) rfl rfl dX4_addsAll_23 ?_
      refine z_iload_n S 1 dX4_addsAll_26 rfl rfl ?_
      refine z_iload_n S 2 dX4_addsAll_27 rfl rfl ?_
      refine z_iadd S dX4_addsAll_28 ?_
      refine z_iald S (Nat.le_of_ble_eq_true rfl) (cM_8 X z0) dX4_addsAll_29 h (fun v_29 h => ?_)
      refine z_bipush (v := (nI 44)) S dX4_addsAll_30 (by decide) ?_
      refine z_icmp_eq S (tgt := 41) dX4_addsAll_32 (by decide) h (fun h => ?_) (fun h => ?_)
      · exact z_lv [0, 1, 2] rfl (tj_X4_addsAll_41 S hk_2 _ _ _ h)
      · refine z_iinc S 2 [(2, .int (x2 + nI 1)), (0, .ref (X.1 0)), (1, .int x1)] dX4_addsAll_35 rfl rfl (Nat.le_of_ble_eq_true rfl) rfl ?_
        refine z_goto S (tgt := 12) dX4_addsAll_38 (by decide) ?_
        exact z_lv [1, 2, 0] rfl (ih _ _ _ h)
set_option maxHeartbeats 4000000 in
set_option maxRecDepth 100000 in
theorem tl_X4_addsAll_2 {l : Launch} {D : va_G} {X : zE} {p : Program} {e : Env} {s : State} {m : MethodId} {args : Array Value} {below : List Frame} {meth : Method} {c : Code} (S : zS p m meth c cX4_addsAll 5 (some .boolean) s args wsX4_addsAll RX4 D 9 X) {r : Int32} {z1 : zV} : ∀ (n_ : Nat), ∀ (z0 : zV) (x1 : Int32), l_X4_addsAll_2 n_ z0 x1 = some (r, z1) → Zj true D 9 X p l e (zrm 2 48) s m args below meth c (MQ below (zQw D 9 X (zc shM X z1) (some (.int r))) args s 0 0 (zw_A 9 X.1)) 5 2 [(0, .ref (X.1 0)), (1, .int x1)] [] (zc shM X z0) := by
  intro n_
  induction n_ with
  | zero =>
    intro z0 x1 h
    cases h
  | succ n_ ih =>
    intro z0 x1 h
    rw [l_X4_addsAll_2] at h
    refine z_iload_n S 1 dX4_addsAll_2 rfl rfl ?_
    refine z_aload_n S 0 dX4_addsAll_3 rfl rfl ?_
    refine z_get S (C := RX4) (T := TX4) (N := 12) (ci := 4) 11 m0_X4_addsAll m1_X4_addsAll (Nat.le_of_ble_eq_true rfl) (cM_0 X z0) rfl (Nat.le_of_ble_eq_true rfl) rfl rfl dX4_addsAll_4 ?_
    refine z_icmp_ge S (tgt := 143) dX4_addsAll_7 (by decide) h (fun h => ?_) (fun h => ?_)
    · refine z_iconst (v := (nI 1)) S dX4_addsAll_143 (by decide) ?_
      exact z_zret_w S dX4_addsAll_144 h
    · refine z_iconst (v := (nI 0)) S dX4_addsAll_10 (by decide) ?_
      refine z_istore_n S [(2, .int (nI 0)), (0, .ref (X.1 0)), (1, .int x1)] dX4_addsAll_11 rfl (Nat.le_of_ble_eq_true rfl) rfl ?_
      exact z_lv [1, 2, 0] rfl (tl_X4_addsAll_12 S ih _ _ _ _ h)
set_option maxHeartbeats 4000000 in
set_option maxRecDepth 100000 in
theorem c_X4_addsAll (l : Launch) (D : va_G) (X : zE) (z0 : zV) (hinj : zw_inj 9 X.1) {r : Int32} {z1 : zV} (h : f_X4_addsAll z0 = some (r, z1)) : zMw l yX4_addsAll wsX4_addsAll (zrm 2 48) D 9 X (zc shM X z0) [.ref (X.1 0)] (some (.int r)) (zc shM X z1) := by
  rw [f_X4_addsAll] at h
  refine z_start_w (cc := cX4_addsAll) (maxL := 5) (ret := (some .boolean)) (by decide) rfl (Nat.le_of_ble_eq_true rfl) hinj ?_
  intro p e s m below meth c S
  refine z_iconst (v := (nI 0)) S dX4_addsAll_0 (by decide) ?_
  refine z_istore_n S [(1, .int (nI 0)), (0, .ref (X.1 0))] dX4_addsAll_1 rfl (Nat.le_of_ble_eq_true rfl) rfl ?_
  exact z_lv [1, 0] rfl (tl_X4_addsAll_2 S _ _ _ h)
